import java.io.IOException;
import java.nio.file.Files;
import java.nio.file.Path;
import java.util.List;
import java.util.Set;
import java.util.TreeSet;
import java.util.regex.Matcher;
import java.util.regex.Pattern;

/** The examples of README.md: each call, in their order on one object, answers what stands beside it. */
public final class ReadmeTest {
    private static final Pattern LINE = Pattern.compile("keep\\.(\\w+)\\((.*)\\);\\s+// (-?\\w+)(:.*)?");
    private static final Set<String> FACE = Set.of("block", "place", "mortar", "rate", "limit", "told", "count", "worst",
        "look", "habit", "state", "feed", "read", "fault", "judged", "acts", "works", "lot", "match", "take");

    private final StoneKeep keep = new StoneKeep();
    private final Set<String> called = new TreeSet<>();

    public static void main(String[] args) throws IOException {
        ReadmeTest test = new ReadmeTest();
        boolean example = false;
        List<String> lines = Files.readAllLines(Path.of("README.md"));
        for (String line : lines) {
            if (line.startsWith("```")) {
                example = line.equals("```java");
            } else if (example && !line.equals("StoneKeep keep = new StoneKeep();")) {
                test.call(line);
            }
        }
        Due.holds("each call has an example: " + test.called, test.called.equals(FACE));
        Due.end();
    }

    private void call(String line) {
        Matcher parts = LINE.matcher(line);
        if (!parts.matches()) {
            Due.holds("a call with its answer: " + line, false);
            return;
        }
        called.add(parts.group(1));
        Due.is(line, Calls.answer(keep, parts.group(1), numbers(parts.group(2))), number(parts.group(3)));
    }

    private static long[] numbers(String text) {
        String[] parts = text.isEmpty() ? new String[0] : text.split(", ");
        long[] numbers = new long[parts.length];
        for (int i = 0; i < parts.length; i++) {
            numbers[i] = number(parts[i]);
        }
        return numbers;
    }

    private static long number(String text) {
        switch (text) {
            case "true": return 1;
            case "false": return 0;
            case "NONE": return StoneKeep.NONE;
            case "UNKNOWN": return StoneKeep.UNKNOWN;
            case "OUTSIDE": return StoneKeep.OUTSIDE;
            case "NOT": return StoneKeep.NOT;
            case "FULL": return StoneKeep.FULL;
            default: return Long.decode(text.replace("L", ""));
        }
    }
}

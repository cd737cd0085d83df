import java.io.IOException;
import java.nio.file.Files;
import java.nio.file.Path;

/**
 * Ties a test to the words of the document that it holds: they must stand there as they are quoted.
 * Without the document the answers are still tested, only the quotes are not.
 */
final class Sentence {
    private static final Path DOCUMENT = Path.of("../shared/DOC.md");
    private static String words = null;

    private Sentence() {
    }

    static void quote(String sentence) {
        Due.about(sentence);
        Due.holds("the document says: " + sentence, words().isEmpty() || words().contains(plain(sentence)));
    }

    private static String words() {
        if (words == null) {
            try {
                words = plain(Files.readString(DOCUMENT));
            } catch (IOException e) {
                System.out.println("quotes are not tested, no document at " + DOCUMENT);
                words = "";
            }
        }
        return words;
    }

    private static String plain(String text) {
        return text.replaceAll("\\s+", " ").strip();
    }
}

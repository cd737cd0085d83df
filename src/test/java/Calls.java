import java.util.Arrays;

/** The calls of the public face by their names, with their numbers in a row. */
final class Calls {
    private Calls() {
    }

    static long answer(StoneKeep x, String name, long... a) {
        int[] i = new int[a.length];
        for (int k = 0; k < a.length; k++) {
            i[k] = (int) a[k];
        }
        switch (name) {
            case "block": return x.block(i[0], i[1], i[2]);
            case "place": return x.place(i[0], i[1], i[2], i[3], i[4]);
            case "mortar": return x.mortar(i[0], i[1], i[2] == 1);
            case "rate": return x.rate(i[0], i[1], i[2], i[3]);
            case "limit": return x.limit(i[0]);
            case "told": return x.told(i[0], i[1], i[2]);
            case "count": return x.count(i[0]);
            case "worst": return x.worst(i[0], i[1]);
            case "look": return x.look(i[0], i[1], i[2], i[3]);
            case "habit": return x.habit(i[0], i[1], i[2]);
            case "state": return x.state(i[0], i[1], i[2], i[3]);
            case "feed": return x.feed(i[0], a[1]);
            case "read": return x.read();
            case "fault": return x.fault();
            case "judged": return x.judged(i[0], i[1]);
            case "acts": return x.acts(i[0], i[1]);
            case "works": return x.works(i[0], i[1], i[2], i[3], i[4]);
            case "lot": return x.lot(i[0], i[1], i[2], i[3], i[4]);
            case "match": return x.match(i[0], i[1], i[2], i[3], i[4]);
            case "take": return x.take(i[0]);
            default: throw new IllegalArgumentException(name);
        }
    }

    static String told(String name, long... a) {
        return name + Arrays.toString(a);
    }

    /** Puts a text behind THE TEXT, eight bytes a call: what the last call answered. */
    static int feed(StoneKeep x, String text) {
        int answer = 0;
        for (int from = 0; from < text.length(); from += 8) {
            String part = text.substring(from, Math.min(from + 8, text.length()));
            long bytes = 0;
            for (int i = 0; i < part.length(); i++) {
                bytes = bytes << 8 | part.charAt(i);
            }
            answer = x.feed(part.length(), bytes);
        }
        return answer;
    }
}

import java.util.Random;

/** No call throws or fails to end, for any numbers in any state, and long after the 512th call, too. */
public final class NeverThrowsTest {
    private static final int[] EDGES = {0, 1, -1, 2, 3, 4, 7, 8, 29, 30, 31, 32, 59, 60, 79, 80, 99, 100, 119, 120, 396,
        400, 401, 1000, 2000, 2001, -2, -32, -1001, 1 << 30, Integer.MIN_VALUE, Integer.MAX_VALUE};
    private static final String[] NAMES = {"block", "place", "mortar", "rate", "limit", "told", "count", "worst", "look",
        "habit", "state", "feed", "read", "fault", "judged", "acts", "works", "lot", "match", "take"};
    private static final String BYTES = "lost state wet side stone age harm leave mend change <>&=;0123456789";

    public static void main(String[] args) {
        for (int seed = 0; seed < 20; seed++) {
            Random random = new Random(seed);
            StoneKeep x = new StoneKeep();
            for (int call = 0; call < 5000; call++) {
                String name = NAMES[random.nextInt(NAMES.length)];
                long[] a = {number(random), number(random), number(random), number(random), number(random)};
                if (name.equals("feed")) {
                    a[1] = random.nextBoolean() ? random.nextLong() : BYTES.charAt(random.nextInt(BYTES.length()));
                }
                tried(x, name, a);
            }
        }
        Due.end();
    }

    private static void tried(StoneKeep x, String name, long[] a) {
        try {
            Calls.answer(x, name, a);
        } catch (RuntimeException | StackOverflowError e) {
            Due.holds(Calls.told(name, a) + " threw " + e, false);
        }
    }

    private static int number(Random random) {
        int kind = random.nextInt(10);
        return kind == 0 ? random.nextInt() : kind < 3 ? EDGES[random.nextInt(EDGES.length)] : random.nextInt(5);
    }
}

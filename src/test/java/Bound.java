import java.util.List;

/** A call whose numbers are all within their bounds, and the bounds of each; UNKNOWN where it names what there is. */
record Bound(String name, long[] inside, long[][] bounds) {
    private static final long UNKNOWN = StoneKeep.UNKNOWN, OUTSIDE = StoneKeep.OUTSIDE;
    private static final long[] YEAR = {0, 400, OUTSIDE}, STONE = {0, 3, OUTSIDE}, FOUR = {0, 3, OUTSIDE};
    private static final long[] PART = {0, 1, OUTSIDE}, QUALITY = {0, 99, OUTSIDE};
    private static final long[] FREE = {Integer.MIN_VALUE, Integer.MAX_VALUE, 0};

    /** All calls with a number that has bounds, for an object with so many BLOCKS, LOOKS and LOTS. */
    static List<Bound> all(int blocks, int looks, int lots) {
        long[] block = {0, blocks - 1, UNKNOWN};
        long[] lot = {0, lots - 1, UNKNOWN};
        long[] known = {-1, looks, OUTSIDE};
        return List.of(
            of("block", row(1, 10, 100), STONE, YEAR, bound(1, 2000)),
            of("place", row(0, 10, 1, 1, 1), block, YEAR, FOUR, FOUR, bound(0, 7)),
            of("mortar", row(0, 10, 1), block, YEAR, FREE),
            of("rate", row(1, 1, 1, 7), STONE, FOUR, FOUR, bound(0, 50)),
            of("limit", row(30), bound(1, 100)),
            of("told", row(0, 10, 7), block, YEAR, bound(0, 8)),
            of("count", row(3), bound(0, 8)),
            of("worst", row(10, 0), YEAR, FREE),
            of("look", row(0, 1, 10, 50), block, FOUR, YEAR, QUALITY),
            of("habit", row(1, -1, 0), FOUR, known, PART),
            of("state", row(0, 10, -1, 0), block, YEAR, known, PART),
            of("feed", row(1, 32), bound(1, 8), FREE),
            of("judged", row(0, 10), block, YEAR),
            of("acts", row(10, 1), YEAR, bound(0, 2)),
            of("works", row(3, 10, 2, 500, -1), FREE, bound(0, 396), bound(1, 4), bound(0, 1000), FREE),
            of("lot", row(1, 50, 50, 50, 5), STONE, QUALITY, QUALITY, QUALITY, QUALITY),
            of("match", row(1, 50, 50, 50, 5), bound(-1, 3), QUALITY, QUALITY, QUALITY, QUALITY),
            of("take", row(0), lot));
    }

    private static Bound of(String name, long[] inside, long[]... bounds) {
        return new Bound(name, inside, bounds);
    }

    private static long[] row(long... numbers) {
        return numbers;
    }

    private static long[] bound(long least, long most) {
        return new long[] {least, most, OUTSIDE};
    }

    boolean isFree(int place) {
        return bounds[place][2] == 0;
    }

    /** The numbers that are just outside, and those as far outside as can be. */
    long[] outside(int place) {
        return new long[] {bounds[place][0] - 1, bounds[place][1] + 1, Integer.MIN_VALUE, Integer.MAX_VALUE};
    }

    long refusal(int place) {
        return bounds[place][2];
    }

    /** The call's numbers with another one in a place. */
    long[] with(int place, long number) {
        long[] a = inside.clone();
        a[place] = number;
        return a;
    }
}

/** The sentences of part 4 that name an edge of lots, matches and pieces. */
public final class EdgesOfStocksTest {
    private static final int UNKNOWN = StoneKeep.UNKNOWN, OUTSIDE = StoneKeep.OUTSIDE;
    private static final int NONE = StoneKeep.NONE, NOT = StoneKeep.NOT;

    public static void main(String[] args) {
        lotsAtTheirBounds();
        withPieces();
        bySpanAtMost();
        spanOfAll();
        leastSum();
        ofLikeOnesTheFirst();
        anyStone();
        taken();
        Due.end();
    }

    private static void lotsAtTheirBounds() {
        Sentence.quote("LOTS of stone (20 at most): STONE, STRENGTH, PORES, COLOUR (0 .. 99 each), PIECES (0 .. 99).");
        StoneKeep x = new StoneKeep();
        Due.is("the least", x.lot(0, 0, 0, 0, 0), 0);
        Due.is("the most", x.lot(3, 99, 99, 99, 99), 1);
        Due.is("pieces of all", x.count(8), 99);
        Due.is("the least has none", x.match(0, 0, 0, 0, 99), NONE);
        Due.is("the most is found", x.match(3, 99, 99, 99, 0), 1);
        int[] most = {3, 99, 99, 99, 99};
        for (int place = 0; place < 5; place++) {
            int[] a = most.clone();
            a[place]++;
            Due.is("one above, place " + place, x.lot(a[0], a[1], a[2], a[3], a[4]), OUTSIDE);
            a[place] = -1;
            Due.is("one below, place " + place, x.lot(a[0], a[1], a[2], a[3], a[4]), OUTSIDE);
        }
        Due.is("STONE NONE is for a match alone", x.lot(NONE, 0, 0, 0, 0), OUTSIDE);
        Due.is("the next number", x.lot(0, 0, 0, 0, 1), 2);
        Due.is("pieces of all now", x.count(8), 100);
    }

    private static void withPieces() {
        Sentence.quote("A MATCH for numbers wanted and a SPAN: the LOT with PIECES");
        StoneKeep x = new StoneKeep();
        Due.is("of no lots", x.match(0, 50, 50, 50, 99), NONE);
        x.lot(0, 50, 50, 50, 0);
        Due.is("without pieces", x.match(0, 50, 50, 50, 99), NONE);
        x.lot(0, 60, 60, 60, 1);
        Due.is("the farther one with pieces", x.match(0, 50, 50, 50, 99), 1);
        x.take(1);
        Due.is("its last piece taken", x.match(0, 50, 50, 50, 99), NONE);
        x.lot(0, 70, 70, 70, 2);
        x.take(2);
        Due.is("one piece left", x.match(0, 50, 50, 50, 99), 2);
        Due.is("a match takes none", x.take(2), 0);
    }

    private static void bySpanAtMost() {
        Sentence.quote("whose three numbers each differ by SPAN at most");
        for (int place = 0; place < 3; place++) {
            for (int off : new int[] {-7, -6, -1, 0, 1, 6, 7}) {
                int[] a = {50, 50, 50};
                a[place] += off;
                StoneKeep x = new StoneKeep();
                x.lot(0, a[0], a[1], a[2], 1);
                String call = "place " + place + ", off by " + off + ", span ";
                Due.is(call + 6, x.match(0, 50, 50, 50, 6), Math.abs(off) <= 6 ? 0 : NONE);
                Due.is(call + 0, x.match(0, 50, 50, 50, 0), off == 0 ? 0 : NONE);
                Due.is(call + 1, x.match(0, 50, 50, 50, 1), Math.abs(off) <= 1 ? 0 : NONE);
                Due.is(call + 7, x.match(0, 50, 50, 50, 7), 0);
            }
        }
        StoneKeep y = new StoneKeep();
        y.lot(0, 56, 44, 56, 1);
        Due.is("each by the span, the sum above it", y.match(0, 50, 50, 50, 6), 0);
        Due.is("each by one more", y.match(0, 50, 50, 50, 5), NONE);
    }

    private static void spanOfAll() {
        Sentence.quote("OUTSIDE (also SPAN 0 .. 99).");
        StoneKeep x = new StoneKeep();
        x.lot(2, 99, 99, 99, 1);
        Due.is("span 99", x.match(2, 0, 0, 0, 99), 0);
        Due.is("span 98", x.match(2, 0, 0, 0, 98), NONE);
        Due.is("span 98, one nearer", x.match(2, 1, 1, 1, 98), 0);
        Due.is("span 98, two nearer", x.match(2, 1, 1, 0, 98), NONE);
        Due.is("span 100", x.match(2, 99, 99, 99, 100), OUTSIDE);
        Due.is("span -1", x.match(2, 99, 99, 99, -1), OUTSIDE);
        Due.is("span 0", x.match(2, 99, 99, 99, 0), 0);
        Due.is("stone 3", x.match(3, 99, 99, 99, 0), NONE);
        Due.is("stone 4", x.match(4, 99, 99, 99, 0), OUTSIDE);
        Due.is("stone NONE", x.match(NONE, 99, 99, 99, 0), 0);
        Due.is("stone -2", x.match(-2, 99, 99, 99, 0), OUTSIDE);
    }

    private static void leastSum() {
        Sentence.quote("with the least sum of these");
        StoneKeep x = new StoneKeep();
        x.lot(0, 50, 50, 56, 1);
        x.lot(0, 52, 52, 51, 1);
        x.lot(0, 51, 51, 52, 1);
        x.lot(0, 48, 50, 50, 1);
        Due.is("of sums 6, 5, 4, 2", x.match(0, 50, 50, 50, 9), 3);
        x.take(3);
        Due.is("of sums 6, 5, 4", x.match(0, 50, 50, 50, 9), 2);
        x.take(2);
        Due.is("of sums 6, 5", x.match(0, 50, 50, 50, 9), 1);
        Due.is("of sums 6, 5, the least beyond the span", x.match(0, 50, 50, 50, 1), NONE);
        x.take(1);
        Due.is("of 6 alone", x.match(0, 50, 50, 50, 9), 0);
        Due.is("of 6 beyond the span", x.match(0, 50, 50, 50, 5), NONE);
    }

    private static void ofLikeOnesTheFirst() {
        Sentence.quote("of like ones the first.");
        StoneKeep x = new StoneKeep();
        x.lot(1, 50, 50, 50, 9);
        x.lot(0, 50, 53, 50, 1);
        x.lot(0, 51, 49, 51, 1);
        x.lot(0, 50, 50, 47, 1);
        x.lot(0, 50, 53, 50, 1);
        int[] due = {1, 2, 3, 4, NONE};
        for (int d : due) {
            Due.is("the first that is left", x.match(0, 50, 50, 50, 5), d);
            if (d != NONE) {
                Due.is("its last piece", x.take(d), 0);
            }
        }
    }

    private static void anyStone() {
        Sentence.quote("A MATCH (STONE NONE: any): the LOT; NONE.");
        StoneKeep x = new StoneKeep();
        for (int stone = 3; stone >= 0; stone--) {
            x.lot(stone, 50 + stone, 50, 50, 1);
        }
        Due.is("any", x.match(NONE, 50, 50, 50, 9), 3);
        for (int stone = 0; stone < 4; stone++) {
            Due.is("stone " + stone, x.match(stone, 50, 50, 50, 9), 3 - stone);
            Due.is("stone " + stone + " beyond", x.match(stone, 60, 50, 50, 9 - stone - 1), NONE);
            Due.is("any at " + stone, x.match(NONE, 50 + stone, 50, 50, 0), 3 - stone);
        }
    }

    private static void taken() {
        Sentence.quote("A PIECE of a LOT is taken: how many are left. UNKNOWN; NOT: there is none.");
        StoneKeep x = new StoneKeep();
        Due.is("of no lots", x.take(0), UNKNOWN);
        x.lot(0, 0, 0, 0, 0);
        x.lot(0, 0, 0, 0, 1);
        x.lot(0, 0, 0, 0, 99);
        int[] wrong = {-1, 3, 19, 20, Integer.MIN_VALUE, Integer.MAX_VALUE};
        for (int lot : wrong) {
            Due.is("take " + lot, x.take(lot), UNKNOWN);
        }
        Due.is("of an empty one", x.take(0), NOT);
        Due.is("the only one", x.take(1), 0);
        Due.is("of what is empty now", x.take(1), NOT);
        Due.is("of a full one", x.take(2), 98);
        Due.is("all that are left", x.count(8), 98);
        Due.is("the lots stay", x.count(7), 3);
    }
}

/** Promises 19 to 21: lot, match, take. */
public final class StocksTest {
    private static final int UNKNOWN = StoneKeep.UNKNOWN, OUTSIDE = StoneKeep.OUTSIDE, FULL = StoneKeep.FULL;
    private static final int NONE = StoneKeep.NONE, NOT = StoneKeep.NOT;

    public static void main(String[] args) {
        lot();
        match();
        matchWrong();
        take();
        Due.end();
    }

    private static void lot() {
        StoneKeep x = new StoneKeep();
        for (int place = 0; place < 5; place++) {
            for (int value : new int[] {-1, place == 0 ? 4 : 100, Integer.MIN_VALUE, Integer.MAX_VALUE}) {
                int[] w = new int[5];
                w[place] = value;
                Due.is("lot wrong", x.lot(w[0], w[1], w[2], w[3], w[4]), OUTSIDE);
            }
        }
        Due.is("lot: none came", x.count(7), 0);
        Due.is("lot least", x.lot(0, 0, 0, 0, 0), 0);
        Due.is("lot most", x.lot(3, 99, 99, 99, 99), 1);
        for (int i = 2; i < 20; i++) {
            Due.is("lot " + i, x.lot(0, 0, 0, 0, 1), i);
        }
        Due.is("lot 21st, wrong", x.lot(4, 0, 0, 0, 0), OUTSIDE);
        Due.is("lot 21st", x.lot(1, 0, 0, 0, 5), FULL);
        Due.is("lot: twenty", x.count(7), 20);
        Due.is("lot 21st changes nothing", x.count(8), 117);
    }

    private static void match() {
        StoneKeep x = new StoneKeep();
        x.lot(0, 50, 50, 50, 1);
        x.lot(1, 53, 50, 50, 1);
        x.lot(0, 51, 51, 51, 1);
        x.lot(0, 50, 53, 50, 1);
        x.lot(0, 50, 50, 40, 1);
        x.lot(2, 50, 50, 50, 0);
        Due.is("match itself", x.match(0, 50, 50, 50, 0), 0);
        Due.is("match: least sum", x.match(0, 52, 51, 51, 2), 2);
        Due.is("match: a stone", x.match(1, 50, 50, 50, 3), 1);
        Due.is("match: strength beyond the span", x.match(1, 50, 50, 50, 2), NONE);
        Due.is("match: strength beyond, above", x.match(1, 56, 50, 50, 2), NONE);
        Due.is("match: strength within, above", x.match(1, 56, 50, 50, 3), 1);
        Due.is("match: pores beyond", x.match(0, 50, 56, 50, 2), NONE);
        Due.is("match: pores within", x.match(0, 50, 56, 50, 3), 3);
        Due.is("match: colour beyond", x.match(0, 50, 50, 37, 2), NONE);
        Due.is("match: colour within", x.match(0, 50, 50, 37, 3), 4);
        Due.is("match: of like ones the first", x.match(NONE, 52, 52, 50, 9), 1);
        Due.is("match: of like ones of a stone the first", x.match(0, 52, 52, 50, 9), 2);
        Due.is("match: like sums", x.match(0, 50, 50, 45, 9), 0);
        Due.is("match: one nearer", x.match(0, 50, 50, 44, 9), 4);
        Due.is("match: any stone", x.match(NONE, 54, 50, 50, 9), 1);
        Due.is("match: that stone", x.match(0, 54, 50, 50, 9), 0);
        Due.is("match: no pieces", x.match(2, 50, 50, 50, 99), NONE);
        Due.is("match: no such stone", x.match(3, 50, 50, 50, 99), NONE);
        x.take(0);
        Due.is("match: taken", x.match(0, 50, 50, 50, 9), 2);
    }

    private static void matchWrong() {
        StoneKeep x = new StoneKeep();
        x.lot(0, 0, 0, 0, 1);
        for (int place = 0; place < 5; place++) {
            for (int value : new int[] {place == 0 ? -2 : -1, place == 0 ? 4 : 100, Integer.MIN_VALUE}) {
                int[] w = new int[5];
                w[place] = value;
                Due.is("match wrong", x.match(w[0], w[1], w[2], w[3], w[4]), OUTSIDE);
            }
        }
        Due.is("match: span 0", x.match(0, 0, 0, 0, 0), 0);
        Due.is("match: span 99", x.match(0, 99, 99, 99, 99), 0);
    }

    private static void take() {
        StoneKeep x = new StoneKeep();
        Due.is("take: no lot", x.take(0), UNKNOWN);
        x.lot(0, 0, 0, 0, 2);
        x.lot(0, 0, 0, 0, 0);
        Due.is("take(-1)", x.take(-1), UNKNOWN);
        Due.is("take(2)", x.take(2), UNKNOWN);
        Due.is("take: empty", x.take(1), NOT);
        Due.is("take: first", x.take(0), 1);
        Due.is("take: count", x.count(8), 1);
        Due.is("take: second", x.take(0), 0);
        Due.is("take: third", x.take(0), NOT);
        Due.is("take: none left", x.count(8), 0);
        Due.is("take: the lots stay", x.count(7), 2);
    }
}

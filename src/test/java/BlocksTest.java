/** Promises 1 to 9: a new object, block, place, mortar, rate, limit, told, count, worst. */
public final class BlocksTest {
    private static final int UNKNOWN = StoneKeep.UNKNOWN, OUTSIDE = StoneKeep.OUTSIDE, FULL = StoneKeep.FULL;
    private static final int NONE = StoneKeep.NONE, NOT = StoneKeep.NOT;

    public static void main(String[] args) {
        newObject();
        block();
        place();
        moved();
        mortar();
        rate();
        limit();
        told();
        danger();
        count();
        worst();
        worstOfThirty();
        Due.end();
    }

    private static void newObject() {
        StoneKeep x = new StoneKeep();
        for (int what = 0; what <= 8; what++) {
            Due.is("new: count(" + what + ")", x.count(what), 0);
        }
        Due.is("new: told", x.told(0, 0, 0), UNKNOWN);
        Due.is("new: worst", x.worst(0, 0), NONE);
        Due.is("new: fault", x.fault(), NONE);
        Due.is("new: habit upper", x.habit(3, NONE, 0), 0);
        Due.is("new: habit lower", x.habit(3, NONE, 1), 1);
        Due.is("new: state", x.state(0, 0, NONE, 0), UNKNOWN);
        Due.is("new: judged", x.judged(0, 0), UNKNOWN);
        Due.is("new: acts", x.acts(0, 0), 0);
        Due.is("new: match", x.match(NONE, 0, 0, 0, 99), NONE);
        Due.is("new: take", x.take(0), UNKNOWN);
        Due.is("new: limit", x.limit(50), 50);
        for (int i = 0; i < 64; i++) {
            Due.is("new: rate " + i, x.rate(i / 16, i / 4 % 4, i % 4, 1), 1);
        }
    }

    private static void block() {
        StoneKeep x = new StoneKeep();
        int[][] wrong = {{-1, 0, 1}, {4, 0, 1}, {0, -1, 1}, {0, 401, 1}, {0, 0, 0}, {0, 0, -5}, {0, 0, 2001},
            {Integer.MIN_VALUE, 0, 1}, {0, Integer.MAX_VALUE, 1}, {0, 0, Integer.MAX_VALUE}};
        for (int[] w : wrong) {
            Due.is("block wrong", x.block(w[0], w[1], w[2]), OUTSIDE);
        }
        Due.is("block: none came", x.count(0), 0);
        Due.is("block least", x.block(0, 0, 1), 0);
        Due.is("block most", x.block(3, 400, 2000), 1);
        for (int b = 2; b < 30; b++) {
            Due.is("block " + b, x.block(b % 4, b, b), b);
        }
        Due.is("block 31st, wrong", x.block(4, 0, 1), OUTSIDE);
        Due.is("block 31st", x.block(0, 0, 1), FULL);
        Due.is("block: thirty", x.count(0), 30);
        Due.is("block: last stone", x.told(29, 0, 0), 1);
        Due.is("block: last year", x.told(29, 0, 1), 29);
        Due.is("block: last deep", x.told(29, 0, 2), 29);
    }

    private static void place() {
        StoneKeep x = new StoneKeep();
        Due.is("place: no block", x.place(0, 0, 0, 0, 0), UNKNOWN);
        x.block(0, 0, 100);
        int[][] wrong = {{0, -1, 0, 0, 0}, {0, 401, 0, 0, 0}, {0, 0, -1, 0, 0}, {0, 0, 4, 0, 0}, {0, 0, 0, -1, 0},
            {0, 0, 0, 4, 0}, {0, 0, 0, 0, -1}, {0, 0, 0, 0, 8}};
        for (int[] w : wrong) {
            Due.is("place wrong", x.place(w[0], w[1], w[2], w[3], w[4]), OUTSIDE);
            Due.is("place wrong, no block", x.place(-1, w[1], w[2], w[3], w[4]), UNKNOWN);
        }
        Due.is("place: none came", x.count(1), 0);
        Due.is("place most", x.place(0, 400, 3, 3, 7), 1);
        Due.is("place side", x.told(0, 400, 3), 3);
        Due.is("place wet", x.told(0, 400, 4), 3);
        Due.is("place zone", x.told(0, 400, 5), 7);
        Due.is("place: year before", x.told(0, 399, 5), 0);
        for (int i = 2; i <= 60; i++) {
            Due.is("place " + i, x.place(0, 0, i % 4, 0, 0), i);
        }
        Due.is("place: of like ones the last", x.told(0, 399, 3), 0);
        Due.is("place 61st", x.place(0, 0, 3, 3, 3), FULL);
        Due.is("place 61st, wrong", x.place(0, 0, 3, 3, 8), OUTSIDE);
        Due.is("place 61st, no block", x.place(1, 0, 3, 3, 3), UNKNOWN);
        Due.is("place: sixty", x.count(1), 60);
        Due.is("place 61st changes nothing", x.told(0, 0, 3), 0);
    }

    /** A block that is moved keeps its number; the latest year not above rules, whenever it was told. */
    private static void moved() {
        StoneKeep x = new StoneKeep();
        x.block(0, 0, 2000);
        x.block(0, 0, 2000);
        x.rate(0, 1, 2, 7);
        x.rate(0, 2, 1, 11);
        x.place(0, 20, 2, 1, 5);
        x.place(0, 10, 1, 2, 4);
        x.place(1, 5, 3, 3, 3);
        Due.is("moved: side at 9", x.told(0, 9, 3), 0);
        Due.is("moved: side at 10", x.told(0, 10, 3), 1);
        Due.is("moved: wet at 19", x.told(0, 19, 4), 2);
        Due.is("moved: zone at 19", x.told(0, 19, 5), 4);
        Due.is("moved: side at 20", x.told(0, 20, 3), 2);
        Due.is("moved: wet at 20", x.told(0, 20, 4), 1);
        Due.is("moved: zone at 400", x.told(0, 400, 5), 5);
        Due.is("moved: lost at 10", x.told(0, 10, 7), 10);
        Due.is("moved: lost at 11", x.told(0, 11, 7), 17);
        Due.is("moved: lost at 20", x.told(0, 20, 7), 80);
        Due.is("moved: lost at 22", x.told(0, 22, 7), 102);
        x.place(0, 10, 0, 0, 6);
        Due.is("moved again: zone at 15", x.told(0, 15, 5), 6);
        Due.is("moved again: zone at 20", x.told(0, 20, 5), 5);
        Due.is("moved again: lost at 22", x.told(0, 22, 7), 42);
        Due.is("moved: the other one", x.told(1, 22, 5), 3);
    }

    private static void mortar() {
        StoneKeep x = new StoneKeep();
        Due.is("mortar: no block", x.mortar(0, 0, true), UNKNOWN);
        Due.is("mortar: no block, wrong year", x.mortar(0, 401, true), UNKNOWN);
        x.block(0, 10, 100);
        x.block(0, 10, 100);
        Due.is("mortar: year -1", x.mortar(0, -1, true), OUTSIDE);
        Due.is("mortar: year 401", x.mortar(0, 401, true), OUTSIDE);
        Due.is("mortar: none came", x.count(2), 0);
        Due.is("mortar wrong", x.mortar(0, 20, true), 1);
        Due.is("mortar right", x.mortar(0, 30, false), 2);
        Due.is("mortar at 19", x.told(0, 19, 6), 0);
        Due.is("mortar at 20", x.told(0, 20, 6), 1);
        Due.is("mortar at 29", x.told(0, 29, 6), 1);
        Due.is("mortar at 30", x.told(0, 30, 6), 0);
        Due.is("mortar of the other", x.told(1, 20, 6), 0);
        Due.is("mortar: lost at 20", x.told(0, 20, 7), 10);
        Due.is("mortar: lost at 21", x.told(0, 21, 7), 12);
        Due.is("mortar: lost at 31", x.told(0, 31, 7), 31);
        Due.is("mortar: of like ones the last", x.mortar(0, 20, false), 3);
        Due.is("mortar: lost at 31 now", x.told(0, 31, 7), 21);
        Due.is("mortar before it was laid", x.mortar(0, 0, true), 4);
        Due.is("mortar: lost at 11", x.told(0, 11, 7), 2);
        for (int i = 5; i <= 60; i++) {
            Due.is("mortar " + i, x.mortar(1, 400, true), i);
        }
        Due.is("mortar 61st", x.mortar(0, 0, false), FULL);
        Due.is("mortar 61st, wrong", x.mortar(0, 401, false), OUTSIDE);
        Due.is("mortar 61st changes nothing", x.told(0, 0, 6), 1);
        Due.is("mortar: sixty", x.count(2), 60);
    }

    private static void rate() {
        StoneKeep x = new StoneKeep();
        int[][] wrong = {{-1, 0, 0, 1}, {4, 0, 0, 1}, {0, -1, 0, 1}, {0, 4, 0, 1}, {0, 0, -1, 1}, {0, 0, 4, 1},
            {0, 0, 0, -1}, {0, 0, 0, 51}};
        for (int[] w : wrong) {
            Due.is("rate wrong", x.rate(w[0], w[1], w[2], w[3]), OUTSIDE);
        }
        for (int i = 0; i < 64; i++) {
            Due.is("rate first " + i, x.rate(i / 16, i / 4 % 4, i % 4, i % 51), 1);
        }
        for (int i = 0; i < 64; i++) {
            Due.is("rate then " + i, x.rate(i / 16, i / 4 % 4, i % 4, 50), i % 51);
        }
        x.rate(2, 0, 0, 0);
        x.block(2, 0, 1);
        Due.is("rate 0: lost", x.told(0, 400, 7), 0);
        Due.is("rate 0: danger", x.told(0, 400, 8), NONE);
        x.rate(2, 0, 0, 50);
        Due.is("rate 50: lost", x.told(0, 400, 7), 20000);
    }

    private static void limit() {
        StoneKeep x = new StoneKeep();
        x.block(0, 0, 200);
        Due.is("limit 0", x.limit(0), OUTSIDE);
        Due.is("limit -1", x.limit(-1), OUTSIDE);
        Due.is("limit 101", x.limit(101), OUTSIDE);
        Due.is("limit 100", x.limit(100), 50);
        Due.is("danger by 100", x.told(0, 0, 8), 200);
        Due.is("limit 1", x.limit(1), 100);
        Due.is("danger by 1", x.told(0, 0, 8), 2);
        Due.is("limit: what it was", x.limit(1), 1);
    }

    private static void told() {
        StoneKeep x = new StoneKeep();
        Due.is("told: no block", x.told(0, -1, -1), UNKNOWN);
        x.block(2, 7, 33);
        Due.is("told(-1)", x.told(-1, 0, 0), UNKNOWN);
        Due.is("told(1)", x.told(1, 0, 0), UNKNOWN);
        Due.is("told: year -1", x.told(0, -1, 0), OUTSIDE);
        Due.is("told: year 401", x.told(0, 401, 0), OUTSIDE);
        Due.is("told: what -1", x.told(0, 0, -1), OUTSIDE);
        Due.is("told: what 9", x.told(0, 0, 9), OUTSIDE);
        int[] due = {2, 7, 33, 0, 0, 0, 0, 3, 24};
        for (int what = 0; what < due.length; what++) {
            Due.is("told " + what, x.told(0, 10, what), due[what]);
        }
        Due.is("told: lost ahead of it", x.told(0, 0, 7), 0);
        Due.is("told: lost when laid", x.told(0, 7, 7), 0);
        Due.is("told: lost a year on", x.told(0, 8, 7), 1);
    }

    private static void danger() {
        StoneKeep x = new StoneKeep();
        x.block(0, 0, 800);
        x.block(0, 0, 802);
        x.block(0, 399, 2);
        x.block(0, 400, 1);
        Due.is("danger in the last year", x.told(0, 0, 8), 400);
        Due.is("danger too late", x.told(1, 0, 8), NONE);
        Due.is("danger after one year", x.told(2, 0, 8), 400);
        Due.is("danger of the last laid", x.told(3, 0, 8), NONE);
        x.block(0, 0, 3);
        Due.is("danger above half", x.told(4, 0, 8), 2);
    }

    private static void count() {
        StoneKeep x = new StoneKeep();
        Due.is("count(-1)", x.count(-1), OUTSIDE);
        Due.is("count(9)", x.count(9), OUTSIDE);
        x.block(0, 0, 1);
        x.block(0, 0, 1);
        x.place(0, 0, 0, 0, 0);
        x.place(0, 0, 0, 0, 0);
        x.place(0, 0, 0, 0, 0);
        x.mortar(0, 0, true);
        for (int hand = 0; hand < 4; hand++) {
            x.look(0, hand, 5, 9);
        }
        RuleTest.feed(x, "=leave;");
        x.read();
        RuleTest.feed(x, "lost>1=mend; wet<2=leave;");
        x.read();
        RuleTest.feed(x, "12345");
        x.lot(0, 0, 0, 0, 40);
        x.lot(0, 0, 0, 0, 2);
        x.take(0);
        int[] due = {2, 3, 1, 4, 6, 2, 5, 2, 41};
        for (int what = 0; what < due.length; what++) {
            Due.is("count " + what, x.count(what), due[what]);
        }
    }

    private static void worst() {
        StoneKeep x = new StoneKeep();
        x.block(0, 0, 100);
        x.block(1, 0, 2000);
        x.block(0, 0, 100);
        x.block(0, 0, 20);
        x.block(2, 0, 100);
        x.place(2, 50, 1, 0, 0);
        x.rate(0, 1, 0, 3);
        x.mortar(4, 49, true);
        int[] early = {3, 0, 2, 4};
        int[] late = {3, 2, 4, 0};
        for (int i = 0; i < 4; i++) {
            Due.is("worst(0, " + i + ")", x.worst(0, i), early[i]);
            Due.is("worst(400, " + i + ")", x.worst(400, i), late[i]);
        }
        Due.is("danger of the fifth", x.told(4, 0, 8), 50);
        Due.is("worst: one has no danger", x.worst(0, 4), NONE);
        Due.is("worst(0, -1)", x.worst(0, -1), NONE);
        Due.is("worst: far", x.worst(0, Integer.MAX_VALUE), NONE);
        Due.is("worst: year -1", x.worst(-1, 0), OUTSIDE);
        Due.is("worst: year 401", x.worst(401, -1), OUTSIDE);
        Due.is("worst is no refusal", x.take(0) == NOT ? 1 : 0, 0);
    }

    private static void worstOfThirty() {
        StoneKeep x = new StoneKeep();
        for (int b = 0; b < 30; b++) {
            x.block(0, 30 - b, 100);
        }
        for (int i = 0; i < 30; i++) {
            Due.is("worst of thirty, " + i, x.worst(0, i), 29 - i);
        }
        Due.is("worst of thirty, 30", x.worst(0, 30), NONE);
    }
}

import java.util.ArrayList;
import java.util.List;

/** Objects with something in all that they can hold, and all that can be seen of an object. */
enum Made {
    EMPTY, SOME, FULL;

    static final int PARTS = 6, YEAR = 390;

    /** 3 blocks, 2 placings, 2 mortars, 6 looks, 3 lots (0 and 2 with pieces), a rule, 9 bytes of text, a fault. */
    private static void fillSome(StoneKeep x) {
        x.block(0, 10, 100);
        x.block(1, 20, 200);
        x.block(2, 0, 50);
        x.place(0, 30, 1, 2, 3);
        x.place(1, 5, 3, 3, 7);
        x.mortar(0, 40, true);
        x.mortar(1, 50, false);
        x.rate(0, 1, 2, 5);
        x.rate(1, 3, 3, 2);
        x.limit(40);
        x.look(0, 0, 0, 40);
        x.look(1, 1, 0, 30);
        x.look(2, 3, 0, 7);
        x.look(0, 1, 50, 30);
        x.look(0, 0, 50, 41);
        x.look(1, 2, 60, 99);
        Calls.feed(x, "lost>20&state<50=change;wet>1=mend;");
        x.read();
        Calls.feed(x, "age>=3");
        x.read();
        Calls.feed(x, "harm>0=me");
        x.lot(0, 10, 20, 30, 2);
        x.lot(1, 50, 50, 50, 0);
        x.lot(3, 99, 99, 99, 3);
    }

    /** As much of all as there may be. */
    private static void fillAll(StoneKeep x) {
        for (int b = 0; b < 30; b++) {
            x.block(b % 4, b * 7, 10 + b * 40);
        }
        for (int i = 0; i < 60; i++) {
            x.place(i * 7 % 30, i * 6, i % 4, i / 4 % 4, i % 8);
            x.mortar(i * 11 % 30, 390 - i * 6, i % 3 != 0);
        }
        for (int i = 0; i < 80; i++) {
            x.look(i % 5, i % 4, i / 16, i);
        }
        x.rate(3, 1, 2, 50);
        x.rate(2, 0, 0, 0);
        x.limit(100);
        Calls.feed(x, "wet>2=mend;side<1=change;stone>2&harm>0=mend;lost<90=leave;state>20=change;age<200=mend;");
        x.read();
        Calls.feed(x, " ".repeat(80) + "harm > 0 & wet < 3 & age > 99 = change ;");
        for (int i = 0; i < 20; i++) {
            x.lot(i % 4, i * 5, 99 - i, i, i % 3);
        }
    }

    StoneKeep object() {
        StoneKeep x = new StoneKeep();
        if (this == SOME) {
            fillSome(x);
        } else if (this == FULL) {
            fillAll(x);
        }
        return x;
    }

    /** Asks for a part of all that can be seen; each part alone keeps an object within its 512 calls. */
    static List<String> seen(StoneKeep x, int part) {
        List<String> seen = new ArrayList<>();
        switch (part) {
            case 0: counts(x, seen); break;
            case 1: rule(x, seen); break;
            case 2: blocks(x, 0, 4, seen); break;
            case 3: blocks(x, 5, 8, seen); break;
            case 4: looks(x, seen); break;
            default: works(x, seen); break;
        }
        return seen;
    }

    private static void ask(StoneKeep x, List<String> seen, String name, long... a) {
        seen.add(Calls.told(name, a) + " = " + Calls.answer(x, name, a));
    }

    private static void counts(StoneKeep x, List<String> seen) {
        for (int what = 0; what <= 8; what++) {
            ask(x, seen, "count", what);
        }
        ask(x, seen, "fault");
        for (int i = 0; i <= 30; i++) {
            ask(x, seen, "worst", YEAR, i);
        }
        for (int i = 0; i < 64; i++) {
            ask(x, seen, "rate", i / 16, i / 4 % 4, i % 4, 1);
        }
        ask(x, seen, "limit", 50);
    }

    /** THE RULE, then THE TEXT, that becomes it. */
    private static void rule(StoneKeep x, List<String> seen) {
        for (int turn = 0; turn < 2; turn++) {
            for (int b = 0; b < 30; b++) {
                ask(x, seen, "judged", b, YEAR);
            }
            for (int act = 0; act < 3; act++) {
                ask(x, seen, "acts", 100, act);
            }
            Calls.feed(x, turn == 0 ? "nd;" : "");
            ask(x, seen, "read");
            ask(x, seen, "fault");
        }
    }

    private static void blocks(StoneKeep x, int from, int to, List<String> seen) {
        for (int b = 0; b < 30; b++) {
            for (int what = from; what <= to; what++) {
                ask(x, seen, "told", b, YEAR, what);
            }
        }
    }

    private static void looks(StoneKeep x, List<String> seen) {
        for (int k = -1; k < 80; k += 9) {
            for (int hand = 0; hand < 4; hand++) {
                ask(x, seen, "habit", hand, k, 0);
                ask(x, seen, "habit", hand, k, 1);
            }
            for (int b = 0; b < 5; b++) {
                ask(x, seen, "state", b, YEAR, k, 0);
                ask(x, seen, "state", b, 3, k, 1);
            }
        }
    }

    private static void works(StoneKeep x, List<String> seen) {
        for (int b = -1; b < 30; b++) {
            ask(x, seen, "works", b < 0 ? 7 : 7L << Math.min(b, 27), 5, 2, 300, b);
        }
        for (int lot = 0; lot < 20; lot++) {
            ask(x, seen, "match", lot % 4, lot * 5, 99 - lot, lot, 9);
            ask(x, seen, "match", -1, lot * 5, lot * 5, lot * 5, 45);
            ask(x, seen, "take", lot);
            ask(x, seen, "take", lot);
        }
    }
}

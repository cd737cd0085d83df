/** What there is a most of: the last that fits, the next one, and what still goes when it is full. */
public final class FullTest {
    private static final int UNKNOWN = StoneKeep.UNKNOWN, OUTSIDE = StoneKeep.OUTSIDE, FULL = StoneKeep.FULL;
    private static final int NONE = StoneKeep.NONE, NOT = StoneKeep.NOT;

    public static void main(String[] args) {
        blocks();
        placings();
        mortars();
        looks();
        looksOfOneBlock();
        text();
        textEmptiedByRead();
        lots();
        pieces();
        refusedDoNotCount();
        Due.end();
    }

    private static void blocks() {
        Sentence.quote("BLOCKS (30 at most)");
        StoneKeep x = new StoneKeep();
        for (int b = 0; b < 29; b++) {
            Due.is("block " + b, x.block(0, 0, 1), b);
        }
        Due.is("the 30th is not there yet", x.told(29, 0, 0), UNKNOWN);
        Due.is("the 30th", x.block(3, 400, 2000), 29);
        Due.is("the 31st", x.block(0, 0, 1), FULL);
        Due.is("the 31st again", x.block(0, 0, 1), FULL);
        Due.is("there is no 31st", x.told(30, 0, 0), UNKNOWN);
        Due.is("how many", x.count(0), 30);
        Due.is("the 30th as it was", x.told(29, 0, 2), 2000);
        Due.is("the 30th is placed", x.place(29, 0, 1, 1, 1), 1);
        Due.is("the 30th has a mortar", x.mortar(29, 0, true), 1);
        Due.is("the 30th is looked at", x.look(29, 0, 0, 5), 0);
        Due.is("the 30th has a state", x.state(29, 0, NONE, 0), 5);
        Due.is("the 30th is judged", x.judged(29, 0), 0);
        Due.is("the 30th is worked on", x.works(1 << 29, 0, 1, 0, 29), NONE);
        Due.is("all are judged", x.acts(0, 0), 30);
    }

    private static void placings() {
        Sentence.quote("PLACINGS (60 in all)");
        StoneKeep x = new StoneKeep();
        x.block(0, 0, 1);
        x.block(0, 0, 1);
        for (int i = 1; i < 60; i++) {
            Due.is("placing " + i, x.place(i % 2, i, 1, 1, 1), i);
        }
        Due.is("the 60th", x.place(1, 400, 3, 3, 7), 60);
        Due.is("the 61st, of a BLOCK", x.place(0, 400, 2, 2, 2), FULL);
        Due.is("the 61st, of another", x.place(1, 400, 2, 2, 2), FULL);
        x.block(0, 0, 1);
        Due.is("the 61st, of a new one", x.place(2, 0, 2, 2, 2), FULL);
        Due.is("how many", x.count(1), 60);
        Due.is("the 60th rules", x.told(1, 400, 5), 7);
        Due.is("of the other the last before", x.told(0, 400, 5), 1);
        Due.is("the new one has none", x.told(2, 400, 5), 0);
        Due.is("a mortar still goes", x.mortar(2, 0, true), 1);
    }

    private static void mortars() {
        Sentence.quote("MORTARS: 60 in all, ruling like PLACINGS");
        StoneKeep x = new StoneKeep();
        x.block(0, 0, 1);
        x.block(0, 0, 1);
        for (int i = 1; i < 60; i++) {
            Due.is("mortar " + i, x.mortar(i % 2, i, i % 3 == 0), i);
        }
        Due.is("the 60th", x.mortar(1, 400, true), 60);
        Due.is("the 61st, wrong", x.mortar(0, 400, true), FULL);
        Due.is("the 61st, right", x.mortar(1, 400, false), FULL);
        Due.is("how many", x.count(2), 60);
        Due.is("the 60th rules", x.told(1, 400, 6), 1);
        Due.is("of the other the last before", x.told(0, 400, 6), 0);
        Due.is("a placing still goes", x.place(0, 0, 0, 0, 0), 1);
    }

    private static void looks() {
        Sentence.quote("LOOKS (80 at most), as they are told");
        StoneKeep x = new StoneKeep();
        for (int b = 0; b < 30; b++) {
            x.block(0, 0, 1);
        }
        for (int i = 0; i < 79; i++) {
            Due.is("look " + i, x.look(i % 30, i % 4, i % 7, i), i);
        }
        Due.is("as known by 80 there are not", x.habit(0, 80, 0), OUTSIDE);
        Due.is("the 80th", x.look(29, 3, 400, 99), 79);
        Due.is("the 81st", x.look(0, 0, 0, 0), FULL);
        Due.is("how many", x.count(3), 80);
        Due.is("the 80th counts", x.state(29, 400, NONE, 1) > 0 ? 1 : 0, 1);
        Due.is("as known by 80", x.habit(0, 80, 1), x.habit(0, NONE, 1));
        Due.is("as known by 81", x.habit(0, 81, 0), OUTSIDE);
        Due.is("state as known by 81", x.state(29, 400, 81, 0), OUTSIDE);
    }

    /** All of one BLOCK in one YEAR: as many DOUBLES as can be. */
    private static void looksOfOneBlock() {
        Sentence.quote("DOUBLES: two LOOKS of one BLOCK in one YEAR by two unlike HANDS.");
        StoneKeep x = new StoneKeep();
        x.block(0, 0, 1);
        for (int i = 0; i < 80; i++) {
            x.look(0, i % 2, 400, i % 2 == 0 ? 99 : 0);
        }
        Due.is("doubles of two hands", x.count(4), 1600);
        Due.is("the most that a habit can be", x.habit(0, NONE, 0), 99);
        Due.is("the most that a habit can be, lower", x.habit(0, NONE, 1), 2);
        Due.is("the least that a habit can be", x.habit(1, NONE, 0), -99);
        Due.is("the least that a habit can be, lower", x.habit(1, NONE, 1), 2);
        Due.is("the 81st", x.look(0, 2, 400, 50), FULL);
        Due.is("no more doubles", x.count(4), 1600);
        Due.is("no habit of its hand", x.habit(2, NONE, 0), 0);
        Due.is("the state as it was", x.state(0, 400, NONE, 0), 99);
        Due.is("the state as it was, lower", x.state(0, 400, NONE, 1), 2);
    }

    private static void text() {
        Sentence.quote("THE RULE is a text (120 bytes at most) of clauses");
        for (int n = 1; n <= 8; n++) {
            StoneKeep x = new StoneKeep();
            Due.is("up to the last that fits", Calls.feed(x, " ".repeat(120 - n)), 120 - n);
            for (int more = n + 1; more <= 8; more++) {
                Due.is("more than fits", x.feed(more, 0x4141414141414141L), FULL);
            }
            Due.is("as many as there were", x.count(6), 120 - n);
            Due.is("what just fits", x.feed(n, 0x2020202020202020L), 120);
            for (int more = 1; more <= 8; more++) {
                Due.is("more of " + more, x.feed(more, 0x4141414141414141L), FULL);
            }
            Due.is("how many", x.count(6), 120);
            Due.is("only blanks came", x.read(), 0);
        }
    }

    private static void textEmptiedByRead() {
        Sentence.quote("THE TEXT (it is empty then, with a FAULT, too) becomes THE RULE");
        StoneKeep x = new StoneKeep();
        Calls.feed(x, " ".repeat(120));
        Due.is("full", x.feed(1, 32), FULL);
        Due.is("read", x.read(), 0);
        Due.is("there is room for all again", Calls.feed(x, "?".repeat(120)), 120);
        Due.is("full again", x.feed(1, 32), FULL);
        Due.is("read with a fault", x.read(), -11);
        Due.is("and again", Calls.feed(x, " ".repeat(108) + "age<1=leave;"), 120);
        Due.is("read of all", x.read(), 1);
        Due.is("empty", x.count(6), 0);
    }

    private static void lots() {
        Sentence.quote("LOTS of stone (20 at most)");
        StoneKeep x = new StoneKeep();
        for (int i = 0; i < 19; i++) {
            Due.is("lot " + i, x.lot(0, i, i, i, 1), i);
        }
        Due.is("the 20th is not there yet", x.take(19), UNKNOWN);
        Due.is("the 20th", x.lot(3, 99, 99, 99, 99), 19);
        Due.is("the 21st", x.lot(3, 0, 0, 0, 1), FULL);
        Due.is("how many", x.count(7), 20);
        Due.is("there is no 21st", x.take(20), UNKNOWN);
        Due.is("the 20th is taken from", x.take(19), 98);
        Due.is("the 21st is no match", x.match(3, 0, 0, 0, 50), NONE);
        // a LOT without PIECES stays one
        Due.is("the last of the first", x.take(0), 0);
        Due.is("none of the first", x.take(0), NOT);
        Due.is("the 21st still", x.lot(0, 0, 0, 0, 1), FULL);
    }

    private static void pieces() {
        Sentence.quote("PIECES (0 .. 99)");
        StoneKeep x = new StoneKeep();
        for (int i = 0; i < 20; i++) {
            x.lot(0, 0, 0, 0, 99);
        }
        Due.is("the most that there can be", x.count(8), 1980);
        for (int left = 98; left >= 0; left--) {
            Due.is("take down to " + left, x.take(7), left);
        }
        Due.is("take from none", x.take(7), NOT);
        Due.is("take from none again", x.take(7), NOT);
        Due.is("the others stay", x.count(8), 1881);
        Due.is("the next", x.take(8), 98);
    }

    /** What is refused takes no number and no room. */
    private static void refusedDoNotCount() {
        Sentence.quote("What has a number has it from 0 on, as it comes.");
        StoneKeep x = new StoneKeep();
        for (int i = 0; i < 30; i++) {
            Due.is("block refused", x.block(0, 0, 2001), OUTSIDE);
            Due.is("block " + i, x.block(0, 0, 2000), i);
        }
        for (int i = 0; i < 80; i++) {
            Due.is("look refused", x.look(0, 0, 401, 0), OUTSIDE);
            Due.is("look of no block", x.look(30, 0, 0, 0), UNKNOWN);
            Due.is("look " + i, x.look(i % 30, 0, 0, 0), i);
        }
        for (int i = 0; i < 20; i++) {
            Due.is("lot refused", x.lot(0, 0, 0, 0, 100), OUTSIDE);
            Due.is("lot " + i, x.lot(0, 0, 0, 0, 0), i);
        }
        StoneKeep y = new StoneKeep();
        y.block(0, 0, 1);
        for (int i = 1; i <= 60; i++) {
            Due.is("placing refused", y.place(0, 0, 0, 0, 8), OUTSIDE);
            Due.is("placing of no block", y.place(1, 0, 0, 0, 0), UNKNOWN);
            Due.is("placing " + i, y.place(0, 0, 0, 0, 0), i);
            Due.is("mortar refused", y.mortar(0, -1, true), OUTSIDE);
            Due.is("mortar of no block", y.mortar(-1, 0, true), UNKNOWN);
            Due.is("mortar " + i, y.mortar(0, 0, true), i);
        }
    }
}

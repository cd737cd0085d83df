/** The sentences of part 4 that name an edge of works: sets, years, coin, scaffolds, the best way. */
public final class EdgesOfWorksTest {
    private static final int UNKNOWN = StoneKeep.UNKNOWN, OUTSIDE = StoneKeep.OUTSIDE, NONE = StoneKeep.NONE;

    public static void main(String[] args) {
        oneToSix();
        bitsOfTheSet();
        yearsAndSpans();
        blockOfTheSet();
        coinJustEnough();
        coinOfEachYear();
        coinAtItsBounds();
        notDone();
        scaffolds();
        zonesOfTheYear();
        earlierYearFirst();
        byNumbersFirst();
        notDoneLast();
        greatestSums();
        changesNothing();
        Due.end();
    }

    /** Blocks of stone 0 that lose so much in each YEAR up to 9 and nothing from 10 on. */
    private static StoneKeep lose(int rate, int blocks) {
        StoneKeep x = new StoneKeep();
        x.rate(0, 0, 0, rate);
        x.rate(0, 1, 0, 0);
        for (int b = 0; b < blocks; b++) {
            x.block(0, 0, 2000);
            x.place(b, 10, 1, 0, 0);
        }
        return x;
    }

    private static void oneToSix() {
        Sentence.quote("THE BEST for a SET of BLOCKS (1 to 6 of them)");
        StoneKeep x = lose(10, 7);
        // lost 100 each: done 110 and one scaffold of 25 for all
        int[] due = {OUTSIDE, 135, 245, 355, 465, 575, 685, OUTSIDE};
        for (int blocks = 0; blocks <= 7; blocks++) {
            Due.is("a set of " + blocks, x.works((1 << blocks) - 1, 10, 1, 1000, NONE), due[blocks]);
        }
        Due.is("six with gaps", x.works(0b1110111, 10, 1, 1000, NONE), 685);
        Due.is("six with gaps, the last", x.works(0b1110111, 10, 1, 1000, 6), 10);
        Due.is("seven, asked for a block", x.works(127, 10, 1, 1000, 0), OUTSIDE);
    }

    private static void bitsOfTheSet() {
        Sentence.quote("A SET is a whole number, bit k for k.");
        StoneKeep x = lose(10, 30);
        for (int b = 0; b < 30; b++) {
            Due.is("bit " + b, x.works(1 << b, 10, 1, 135, b), 10);
            Due.is("not bit " + b, x.works(1 << b, 10, 1, 135, (b + 1) % 30), OUTSIDE);
        }
        Due.is("bit 30", x.works(1 << 30, 10, 1, 135, NONE), OUTSIDE);
        Due.is("bit 31", x.works(1 << 31, 10, 1, 135, NONE), OUTSIDE);
        Due.is("bits 0 and 30", x.works(1 | 1 << 30, 10, 1, 135, 0), OUTSIDE);
        Due.is("bits 0 and 31", x.works(1 | 1 << 31, 10, 1, 135, 0), OUTSIDE);
        Due.is("bits 0 and 29", x.works(1 | 1 << 29, 10, 1, 245, NONE), 245);
        StoneKeep y = lose(10, 2);
        Due.is("bit 2 of two", y.works(4, 10, 1, 1000, NONE), OUTSIDE);
        Due.is("bits 1 and 2 of two", y.works(6, 10, 1, 1000, 1), OUTSIDE);
        Due.is("bit 1 of two", y.works(2, 10, 1, 1000, 1), 10);
    }

    private static void yearsAndSpans() {
        Sentence.quote("a YEAR (0 .. 396), n and COIN");
        StoneKeep x = new StoneKeep();
        x.block(0, 0, 1);
        Due.is("at 0", x.works(1, 0, 1, 0, NONE), 3);
        Due.is("at 0 for 4", x.works(1, 0, 4, 0, NONE), 12);
        Due.is("at 396 for 4: lost at 400", x.works(1, 396, 4, 0, NONE), 1200);
        Due.is("at 396 for 4: done at once", x.works(1, 396, 4, 1000, 0), 396);
        Due.is("at 397", x.works(1, 397, 1, 0, NONE), OUTSIDE);
        Due.is("at -1", x.works(1, -1, 1, 0, NONE), OUTSIDE);
        Due.is("for 0", x.works(1, 0, 0, 0, NONE), OUTSIDE);
        Due.is("for 5", x.works(1, 0, 5, 0, NONE), OUTSIDE);
        StoneKeep y = lose(10, 4);
        for (int n = 1; n <= 4; n++) {
            // one a year: as many as there are years
            Due.is("one a year for " + n, y.works(15, 10, n, 135, NONE), n * 135 + (4 - n) * 300);
            for (int b = 0; b < 4; b++) {
                Due.is("one a year for " + n + ": " + b, y.works(15, 10, n, 135, b), b < n ? 10 + b : NONE);
            }
        }
    }

    private static void blockOfTheSet() {
        Sentence.quote("b = NONE: the sum of all; b a BLOCK of the SET: its YEAR (NONE: not done).");
        StoneKeep x = lose(10, 3);
        x.rate(1, 0, 0, 0);
        x.block(1, 0, 1);
        Due.is("the sum", x.works(0b1001, 10, 2, 1000, NONE), 135);
        Due.is("a block that is done", x.works(0b1001, 10, 2, 1000, 0), 10);
        Due.is("a block that is not done", x.works(0b1001, 10, 2, 1000, 3), NONE);
        Due.is("a block not of the set", x.works(0b1001, 10, 2, 1000, 1), OUTSIDE);
        Due.is("no block", x.works(0b1001, 10, 2, 1000, 4), UNKNOWN);
        Due.is("below NONE", x.works(0b1001, 10, 2, 1000, -2), UNKNOWN);
        StoneKeep y = new StoneKeep();
        y.rate(0, 0, 0, 50);
        y.block(0, 0, 1);
        Due.is("the year 0 is a year", y.works(1, 0, 1, 1000, 0), 0);
        Due.is("the year 0: the sum", y.works(1, 0, 1, 1000, NONE), 35);
    }

    private static void coinJustEnough() {
        Sentence.quote("Its COST: 10, and LOST at that YEAR; a SCAFFOLD (25)");
        for (int lost = 0; lost <= 60; lost += 10) {
            StoneKeep x = lose(lost / 10, 1);
            int cost = 10 + lost + 25;
            boolean less = cost <= 3 * lost;
            Due.is("just enough for " + lost, x.works(1, 10, 1, cost, NONE), less ? cost : 3 * lost);
            Due.is("just enough for " + lost + ", done", x.works(1, 10, 1, cost, 0), less ? 10 : NONE);
            Due.is("one less for " + lost, x.works(1, 10, 1, cost - 1, NONE), 3 * lost);
            Due.is("one less for " + lost + ", done", x.works(1, 10, 1, cost - 1, 0), NONE);
        }
    }

    private static void coinOfEachYear() {
        Sentence.quote("COIN: what may be spent in each YEAR (0 .. 1000).");
        StoneKeep x = lose(10, 4);
        // two a year are 245
        Due.is("two a year", x.works(15, 10, 2, 245, NONE), 490);
        Due.is("two a year: the second", x.works(15, 10, 2, 245, 1), 10);
        Due.is("two a year: the third", x.works(15, 10, 2, 245, 2), 11);
        Due.is("one less: one a year", x.works(15, 10, 2, 244, NONE), 2 * 135 + 600);
        Due.is("one less: the third", x.works(15, 10, 2, 244, 2), NONE);
        Due.is("all in a year", x.works(15, 10, 2, 465, NONE), 465);
        Due.is("all but one in a year", x.works(15, 10, 2, 464, NONE), 490);
        Due.is("all but one in a year: the third", x.works(15, 10, 2, 464, 2), 10);
        Due.is("all but one in a year: the last", x.works(15, 10, 2, 464, 3), 11);
    }

    private static void coinAtItsBounds() {
        Sentence.quote("COIN: what may be spent in each YEAR (0 .. 1000).");
        // 965 lost are 1000 with work and scaffold, 966 are too dear for any COIN
        StoneKeep x = new StoneKeep();
        x.block(0, 0, 2000);
        x.block(0, 0, 2000);
        x.rate(0, 0, 0, 5);
        x.place(0, 193, 1, 0, 0);
        x.place(1, 193, 1, 0, 0);
        x.rate(0, 1, 0, 0);
        Due.is("lost", x.told(0, 200, 7), 965);
        Due.is("by 1000", x.works(1, 200, 1, 1000, 0), 200);
        Due.is("by 1000, the sum", x.works(1, 200, 1, 1000, NONE), 1000);
        Due.is("by 999", x.works(1, 200, 1, 999, 0), NONE);
        Due.is("by 999, the sum", x.works(1, 200, 1, 999, NONE), 2895);
        Due.is("by 1001", x.works(1, 200, 1, 1001, 0), OUTSIDE);
        Due.is("by -1", x.works(1, 200, 1, -1, 0), OUTSIDE);
        Due.is("by 0", x.works(1, 200, 1, 0, NONE), 2895);
        Due.is("each in a year of its own", x.works(3, 200, 2, 1000, NONE), 2000);
        x.rate(0, 3, 0, 1);
        x.place(0, 300, 3, 0, 0);
        x.place(0, 301, 1, 0, 0);
        Due.is("lost one more", x.told(0, 310, 7), 966);
        Due.is("too dear by 1000", x.works(1, 310, 4, 1000, 0), NONE);
    }

    private static void notDone() {
        Sentence.quote("Not done, it costs LOST at y + n times 3 (that is not spent).");
        StoneKeep x = new StoneKeep();
        x.block(0, 5, 1);
        Due.is("laid only then", x.works(1, 1, 4, 0, NONE), 0);
        Due.is("a year on", x.works(1, 2, 4, 0, NONE), 3);
        Due.is("a year on, in fewer years", x.works(1, 2, 3, 0, NONE), 0);
        Due.is("the last year of all", x.works(1, 396, 4, 0, NONE), 3 * 395);
        StoneKeep y = lose(50, 6);
        Due.is("no coin for 1500 each", y.works(63, 10, 4, 0, NONE), 9000);
        Due.is("no coin, a block", y.works(63, 10, 4, 0, 5), NONE);
    }

    private static void scaffolds() {
        Sentence.quote("a SCAFFOLD (25) for each ZONE and YEAR in which some work is done");
        StoneKeep x = lose(10, 4);
        x.place(2, 10, 1, 0, 7);
        x.place(3, 10, 1, 0, 7);
        Due.is("one zone", x.works(3, 10, 1, 1000, NONE), 220 + 25);
        Due.is("another zone", x.works(12, 10, 1, 1000, NONE), 220 + 25);
        Due.is("two zones", x.works(5, 10, 1, 1000, NONE), 220 + 50);
        Due.is("two zones, two blocks each", x.works(15, 10, 1, 1000, NONE), 440 + 50);
        Due.is("two zones, coin for one", x.works(5, 10, 1, 269, NONE), 135 + 300);
        Due.is("two zones, the first has it", x.works(5, 10, 1, 269, 0), 10);
        Due.is("one zone in two years", x.works(3, 10, 2, 244, NONE), 220 + 50);
    }

    private static void zonesOfTheYear() {
        Sentence.quote("ZONES are those of the YEAR of the work.");
        StoneKeep x = lose(10, 2);
        x.place(1, 12, 1, 0, 3);
        x.place(0, 13, 1, 0, 3);
        x.place(1, 10, 1, 0, 5);
        x.place(1, 11, 1, 0, 5);
        // zones of 0 and 1: 10 and 11: 0 and 5; 12: 0 and 3; 13: 3 and 3
        int[] sums = {270, 270, 270, 245};
        for (int n = 1; n <= 4; n++) {
            Due.is("for " + n, x.works(3, 10, n, 1000, NONE), sums[n - 1]);
        }
        Due.is("the year in which they are together", x.works(3, 10, 4, 1000, 0), 13);
        Due.is("the other", x.works(3, 10, 4, 1000, 1), 13);
        Due.is("at 13 alone", x.works(3, 13, 1, 1000, NONE), 245);
        Due.is("coin for the shared one alone", x.works(3, 12, 2, 245, 1), 13);
    }

    private static void earlierYearFirst() {
        Sentence.quote("of several the first (by BLOCKS' numbers, the earlier YEAR, not done last)");
        StoneKeep x = lose(10, 2);
        for (int n = 1; n <= 4; n++) {
            Due.is("like years, " + n, x.works(1, 20, n, 1000, 0), 20);
            Due.is("like years, both, " + n, x.works(3, 20, n, 1000, 1), 20);
        }
        StoneKeep y = lose(10, 1);
        y.rate(0, 2, 0, 1);
        y.place(0, 21, 2, 0, 0);
        Due.is("like at 20 and 21, more at 22", y.works(1, 20, 3, 1000, 0), 20);
        Due.is("its sum", y.works(1, 20, 3, 1000, NONE), 135);
    }

    private static void byNumbersFirst() {
        Sentence.quote("of several the first (by BLOCKS' numbers, the earlier YEAR, not done last)");
        StoneKeep x = lose(10, 3);
        int[][] due = {{20, 21, NONE}, {20, 21, 22}};
        for (int b = 0; b < 3; b++) {
            Due.is("two of three: " + b, x.works(7, 20, 2, 135, b), due[0][b]);
            Due.is("three of three: " + b, x.works(7, 20, 3, 135, b), due[1][b]);
        }
        // two share a year and one is alone: the first block has the earlier year, the second, too
        Due.is("two and one: the first", x.works(7, 20, 2, 245, 0), 20);
        Due.is("two and one: the second", x.works(7, 20, 2, 245, 1), 20);
        Due.is("two and one: the third", x.works(7, 20, 2, 245, 2), 21);
        Due.is("coin for one: the first", x.works(6, 20, 1, 135, 1), 20);
        Due.is("coin for one: the second", x.works(6, 20, 1, 135, 2), NONE);
    }

    private static void notDoneLast() {
        Sentence.quote("of several the first (by BLOCKS' numbers, the earlier YEAR, not done last)");
        StoneKeep x = new StoneKeep();
        x.rate(0, 0, 0, 3);
        x.rate(0, 1, 0, 0);
        for (int b = 0; b < 2; b++) {
            x.block(0, 0, 1);
            x.place(b, 5, 1, 0, b);
            x.place(b, 22, 2, 0, b);
            x.place(b, 24, 1, 0, b);
        }
        // lost 15 at 22, 16 at 23, 17 from 24 on: done 50, 51, 52; not done 48 at 23, 51 from 24 on
        Due.is("at 22 not done is less", x.works(1, 22, 1, 1000, 0), NONE);
        Due.is("at 22 not done: the sum", x.works(1, 22, 1, 1000, NONE), 48);
        Due.is("at 23 done is like not done, and ahead", x.works(1, 23, 1, 1000, 0), 23);
        Due.is("at 23: the sum", x.works(1, 23, 1, 1000, NONE), 51);
        Due.is("at 23 with too little coin", x.works(1, 23, 1, 50, 0), NONE);
        Due.is("at 23 with too little coin: the sum", x.works(1, 23, 1, 50, NONE), 51);
        Due.is("at 24 not done is less", x.works(1, 24, 1, 1000, 0), NONE);
        Due.is("at 22 for two years", x.works(1, 22, 2, 1000, 0), 22);
        Due.is("at 22 for two years: the sum", x.works(1, 22, 2, 1000, NONE), 50);
        Due.is("both like: the first", x.works(3, 23, 1, 1000, 0), 23);
        Due.is("both like: the second", x.works(3, 23, 1, 1000, 1), 23);
        Due.is("both like: the sum", x.works(3, 23, 1, 1000, NONE), 102);
        Due.is("both like, coin for one: the first", x.works(3, 23, 1, 101, 0), 23);
        Due.is("both like, coin for one: the second", x.works(3, 23, 1, 101, 1), NONE);
        Due.is("both like, coin for one: the sum", x.works(3, 23, 1, 101, NONE), 102);
    }

    private static void greatestSums() {
        Sentence.quote("of all ways within COIN that with the least sum of all");
        StoneKeep x = new StoneKeep();
        x.rate(0, 0, 0, 50);
        for (int b = 0; b < 6; b++) {
            x.block(0, 0, 1);
            x.mortar(b, 0, true);
        }
        Due.is("six that have lost all", x.works(63, 396, 4, 1000, NONE), 6 * 3 * 40000);
        Due.is("six that have lost all: a block", x.works(63, 396, 4, 1000, 3), NONE);
        Due.is("no year within coin", x.works(63, 10, 4, 1000, NONE), 6 * 3 * 1400);
        Due.is("the first within coin", x.works(63, 9, 4, 1000, 0), 9);
        Due.is("the first within coin: the sum", x.works(63, 9, 4, 1000, NONE), 935 + 5 * 3 * 1300);
    }

    /** What was asked before has no part in the next answer. */
    private static void changesNothing() {
        Sentence.quote("Nothing is promised beyond the answers and state changes described above");
        StoneKeep x = lose(10, 6);
        int first = x.works(63, 10, 4, 245, NONE);
        Due.is("six", first, 3 * 245);
        Due.is("one", x.works(32, 10, 1, 135, NONE), 135);
        Due.is("none done", x.works(7, 10, 2, 0, NONE), 900);
        Due.is("six again", x.works(63, 10, 4, 245, NONE), first);
        Due.is("refused", x.works(0, 10, 4, 245, NONE), OUTSIDE);
        Due.is("the last of six", x.works(63, 10, 4, 245, 5), 12);
        Due.is("nothing was mended", x.told(0, 400, 7), 100);
    }
}

/** The sentences of part 2 that name an edge: looks, as known, doubles, habits, states. */
public final class EdgesOfLooksTest {
    private static final int UNKNOWN = StoneKeep.UNKNOWN, OUTSIDE = StoneKeep.OUTSIDE;
    private static final int NONE = StoneKeep.NONE, NOT = StoneKeep.NOT;

    public static void main(String[] args) {
        grades();
        asKnownByTheFirst();
        doubles();
        eachPairOnce();
        habitWithout();
        habitHalved();
        habitInLeastTerms();
        habitOutside();
        latestYearNotAbove();
        withoutALook();
        meanOfTheYear();
        habitsAsKnownToo();
        stateInLeastTerms();
        toldLate();
        Due.end();
    }

    private static StoneKeep with(int blocks) {
        StoneKeep x = new StoneKeep();
        for (int b = 0; b < blocks; b++) {
            x.block(0, 0, 1);
        }
        return x;
    }

    private static void habitIs(StoneKeep x, int hand, int k, int upper, int lower) {
        Due.is("habit of " + hand + " by " + k, x.habit(hand, k, 0), upper);
        Due.is("habit of " + hand + " by " + k + ", lower", x.habit(hand, k, 1), lower);
    }

    private static void stateIs(StoneKeep x, int b, int year, int k, long upper, long lower) {
        Due.is("state of " + b + " at " + year + " by " + k, x.state(b, year, k, 0), upper);
        Due.is("state of " + b + " at " + year + " by " + k + ", lower", x.state(b, year, k, 1), lower);
    }

    private static void grades() {
        Sentence.quote("of a BLOCK by a HAND (0 .. 3) in a YEAR, a GRADE (0 .. 99, how bad).");
        StoneKeep x = with(2);
        Due.is("the least of all", x.look(0, 0, 0, 0), 0);
        Due.is("the most of all", x.look(1, 3, 400, 99), 1);
        stateIs(x, 0, 0, NONE, 0, 1);
        stateIs(x, 0, 400, NONE, 0, 1);
        stateIs(x, 1, 400, NONE, 99, 1);
        Due.is("the year before 400", x.state(1, 399, NONE, 0), NOT);
        Due.is("a grade of 100", x.look(0, 0, 0, 100), OUTSIDE);
        Due.is("a grade of -1", x.look(0, 0, 0, -1), OUTSIDE);
        Due.is("a hand of 4", x.look(0, 4, 0, 0), OUTSIDE);
        Due.is("the next number", x.look(0, 0, 1, 1), 2);
    }

    private static void asKnownByTheFirst() {
        Sentence.quote("AS KNOWN: by the first k LOOKS alone (k = NONE: all).");
        StoneKeep x = with(1);
        x.look(0, 0, 5, 10);
        x.look(0, 1, 5, 20);
        x.look(0, 0, 5, 40);
        int[][] habits = {{0, 0, 1}, {1, 0, 1}, {2, -5, 1}, {3, 5, 2}, {NONE, 5, 2}};
        for (int turn = 0; turn < 2; turn++) {
            for (int[] h : habits) {
                habitIs(x, 0, h[0], h[1], h[2]);
                habitIs(x, 1, h[0], -h[1], h[2]);
                // the doubles are of all looks, whatever was asked before
                Due.is("doubles", x.count(4), 2);
            }
        }
        Due.is("state by none", x.state(0, 5, 0, 0), NOT);
        stateIs(x, 0, 5, 1, 10, 1);
        stateIs(x, 0, 5, 2, 15, 1);
        // 70 less (5/2 - 5/2 + 5/2), by three
        stateIs(x, 0, 5, 3, 45, 2);
        stateIs(x, 0, 5, NONE, 45, 2);
        Due.is("by more than there are", x.state(0, 5, 4, 0), OUTSIDE);
        Due.is("below NONE", x.state(0, 5, -2, 0), OUTSIDE);
        x.look(0, 0, 6, 1);
        Due.is("by 4 now", x.state(0, 6, 4, 0), -3);
    }

    private static void doubles() {
        Sentence.quote("DOUBLES: two LOOKS of one BLOCK in one YEAR by two unlike HANDS.");
        int[][] others = {{0, 1, 5, 1}, {0, 0, 5, 0}, {1, 1, 5, 0}, {0, 1, 4, 0}, {0, 1, 6, 0}, {1, 0, 5, 0},
            {0, 3, 5, 1}, {1, 1, 6, 0}};
        for (int[] o : others) {
            StoneKeep x = with(2);
            x.look(0, 0, 5, 50);
            Due.is("one look is none", x.count(4), 0);
            x.look(o[0], o[1], o[2], 40);
            Due.is("with block " + o[0] + ", hand " + o[1] + ", year " + o[2], x.count(4), o[3]);
            habitIs(x, 0, NONE, o[3] == 1 ? 5 : 0, 1);
        }
    }

    private static void eachPairOnce() {
        Sentence.quote("(each pair of LOOKS once)");
        int[] due = {0, 1, 3, 6, 6 + 3, 9 + 4};
        int[] hands = {0, 1, 2, 3, 0, 1};
        StoneKeep x = with(1);
        for (int i = 0; i < hands.length; i++) {
            x.look(0, hands[i], 9, 10 * i);
            Due.is("doubles after look " + i, x.count(4), due[i]);
        }
        // hand 3 has 30 against 0, 10, 20, 40, 50: 30 - 24 is 6, halved 3
        habitIs(x, 3, NONE, 3, 1);
        // hand 0 has 0 and 40: against 10, 20, 30, 50 by -110 and 50, of 8 pairs: -60/8, halved
        habitIs(x, 0, NONE, -15, 4);
    }

    private static void habitWithout() {
        Sentence.quote("as a fraction halved (0 without).");
        StoneKeep x = with(2);
        for (int hand = 0; hand < 4; hand++) {
            habitIs(x, hand, NONE, 0, 1);
            habitIs(x, hand, 0, 0, 1);
        }
        x.look(0, 0, 5, 99);
        x.look(0, 0, 5, 0);
        x.look(1, 1, 5, 50);
        for (int hand = 0; hand < 4; hand++) {
            habitIs(x, hand, NONE, 0, 1);
            habitIs(x, hand, 3, 0, 1);
        }
        x.look(1, 2, 5, 40);
        habitIs(x, 0, NONE, 0, 1);
        habitIs(x, 1, NONE, 5, 1);
        habitIs(x, 2, NONE, -5, 1);
        habitIs(x, 3, NONE, 0, 1);
        habitIs(x, 1, 3, 0, 1);
    }

    private static void habitHalved() {
        Sentence.quote("the mean of its GRADE less the other one, as a fraction halved");
        int[][] grades = {{0, 0, 0, 1}, {99, 0, 99, 2}, {0, 99, -99, 2}, {99, 99, 0, 1}, {1, 0, 1, 2}, {0, 1, -1, 2},
            {2, 0, 1, 1}, {99, 1, 49, 1}};
        for (int[] g : grades) {
            StoneKeep x = with(1);
            x.look(0, 2, 0, g[0]);
            x.look(0, 3, 0, g[1]);
            habitIs(x, 2, NONE, g[2], g[3]);
            habitIs(x, 3, NONE, -g[2], g[3]);
        }
    }

    private static void habitInLeastTerms() {
        Sentence.quote("what = 0 the upper, 1 the lower number, in least terms, the lower one above 0.");
        StoneKeep x = with(3);
        x.look(0, 0, 1, 10);
        x.look(0, 1, 1, 4);
        x.look(1, 0, 1, 10);
        x.look(1, 1, 1, 7);
        x.look(2, 0, 1, 10);
        x.look(2, 1, 1, 10);
        habitIs(x, 0, 2, 3, 1);
        // 9/2 halved, 9/3 halved
        habitIs(x, 0, 4, 9, 4);
        habitIs(x, 0, 6, 3, 2);
        habitIs(x, 1, 6, -3, 2);
        x.look(2, 2, 1, 19);
        // 9 and -9: the sum is 0
        habitIs(x, 0, 7, 0, 1);
        habitIs(x, 1, 7, -9, 4);
        habitIs(x, 2, 7, 9, 2);
    }

    private static void habitOutside() {
        Sentence.quote("OUTSIDE (k not NONE, 0 .. LOOKS).");
        StoneKeep x = with(1);
        Due.is("by 0 of none", x.habit(0, 0, 0), 0);
        Due.is("by 1 of none", x.habit(0, 1, 0), OUTSIDE);
        for (int i = 0; i < 3; i++) {
            x.look(0, i, 0, 0);
        }
        int[] within = {NONE, 0, 1, 2, 3};
        int[] outside = {-2, 4, 80, Integer.MIN_VALUE, Integer.MAX_VALUE};
        for (int k : within) {
            Due.is("habit by " + k, x.habit(3, k, 1), 1);
        }
        for (int k : outside) {
            Due.is("habit by " + k, x.habit(3, k, 1), OUTSIDE);
            Due.is("state by " + k, x.state(0, 0, k, 1), OUTSIDE);
        }
    }

    private static void latestYearNotAbove() {
        Sentence.quote("of its LOOKS in the latest YEAR not above it (that has one)");
        StoneKeep x = with(2);
        x.look(0, 0, 400, 4);
        x.look(0, 0, 10, 1);
        x.look(0, 0, 30, 3);
        x.look(0, 0, 20, 2);
        x.look(1, 0, 25, 9);
        int[][] due = {{10, 1}, {11, 1}, {19, 1}, {20, 2}, {25, 2}, {29, 2}, {30, 3}, {31, 3}, {399, 3}, {400, 4}};
        for (int[] d : due) {
            stateIs(x, 0, d[0], NONE, d[1], 1);
        }
        Due.is("ahead of all", x.state(0, 9, NONE, 0), NOT);
        Due.is("ahead of all, 0", x.state(0, 0, NONE, 1), NOT);
        x.look(0, 0, 0, 7);
        stateIs(x, 0, 0, NONE, 7, 1);
        stateIs(x, 0, 9, NONE, 7, 1);
        Due.is("ahead of all of the other", x.state(1, 24, NONE, 0), NOT);
    }

    private static void withoutALook() {
        Sentence.quote("STATE, likewise. UNKNOWN, OUTSIDE; NOT: it has no LOOK.");
        StoneKeep x = with(2);
        Due.is("no look at all", x.state(0, 400, NONE, 0), NOT);
        Due.is("by the first 0", x.state(0, 400, 0, 0), NOT);
        x.look(1, 0, 0, 5);
        Due.is("only of another", x.state(0, 400, NONE, 0), NOT);
        Due.is("only of another, lower", x.state(0, 400, NONE, 1), NOT);
        x.look(0, 0, 7, 5);
        Due.is("only in a later year", x.state(0, 6, NONE, 0), NOT);
        Due.is("only known later", x.state(0, 7, 1, 0), NOT);
        stateIs(x, 0, 7, 2, 5, 1);
        Due.is("of no block", x.state(2, 7, NONE, 0), UNKNOWN);
        Due.is("of no block, -1", x.state(-1, 7, NONE, 0), UNKNOWN);
        Due.is("a part that there is not", x.state(0, 6, NONE, 2), OUTSIDE);
    }

    private static void meanOfTheYear() {
        Sentence.quote("the mean of GRADE less HABIT of its HAND (a fraction)");
        StoneKeep x = with(2);
        x.look(0, 0, 5, 50);
        x.look(0, 0, 5, 51);
        x.look(0, 0, 4, 99);
        x.look(0, 0, 6, 99);
        stateIs(x, 0, 5, NONE, 101, 2);
        x.look(1, 0, 5, 30);
        x.look(1, 1, 5, 10);
        // hand 0 is by 10 above
        stateIs(x, 0, 5, NONE, 81, 2);
        stateIs(x, 1, 5, NONE, 20, 1);
        x.look(0, 2, 5, 0);
        // 50, 51 and 0 are 101; hand 0: 121/3 halved, twice; hand 2: -101/2 halved: 1031/12, by three
        stateIs(x, 0, 5, NONE, 1031, 36);
    }

    private static void habitsAsKnownToo() {
        Sentence.quote("(HABITS are AS KNOWN, too.)");
        StoneKeep x = with(2);
        x.look(0, 0, 300, 60);
        x.look(1, 0, 5, 20);
        x.look(1, 1, 5, 10);
        stateIs(x, 0, 300, 1, 60, 1);
        stateIs(x, 0, 300, 2, 60, 1);
        stateIs(x, 0, 300, 3, 55, 1);
        stateIs(x, 0, 300, NONE, 55, 1);
        // doubles of later years count, too: known is by looks, not by years
        x.look(1, 0, 400, 30);
        x.look(1, 1, 400, 0);
        stateIs(x, 0, 300, NONE, 50, 1);
        stateIs(x, 0, 300, 4, 55, 1);
        stateIs(x, 0, 300, 1, 60, 1);
    }

    private static void stateInLeastTerms() {
        Sentence.quote("HABIT of a HAND AS KNOWN by k: what = 0 the upper, 1 the lower number, in least terms");
        StoneKeep x = with(1);
        x.look(0, 0, 5, 2);
        x.look(0, 0, 5, 4);
        stateIs(x, 0, 5, NONE, 3, 1);
        x.look(0, 0, 5, 6);
        x.look(0, 0, 5, 7);
        stateIs(x, 0, 5, NONE, 19, 4);
        StoneKeep y = with(3);
        y.look(0, 0, 5, 99);
        y.look(0, 1, 5, 0);
        y.look(1, 0, 6, 0);
        y.look(2, 1, 6, 99);
        stateIs(y, 1, 6, NONE, -99, 2);
        stateIs(y, 2, 6, NONE, 297, 2);
        stateIs(y, 0, 5, NONE, 99, 2);
        StoneKeep z = with(1);
        z.look(0, 0, 5, 0);
        stateIs(z, 0, 5, NONE, 0, 1);
    }

    /** Looks have no order but that in which they are told; a year ahead of the laying is a YEAR, too. */
    private static void toldLate() {
        Sentence.quote("LOOKS (80 at most), as they are told");
        StoneKeep x = new StoneKeep();
        x.block(0, 400, 1);
        Due.is("the first number", x.look(0, 0, 0, 5), 0);
        Due.is("the second", x.look(0, 0, 400, 6), 1);
        Due.is("the third", x.look(0, 0, 200, 7), 2);
        stateIs(x, 0, 399, 2, 5, 1);
        stateIs(x, 0, 399, 3, 7, 1);
        stateIs(x, 0, 400, 3, 6, 1);
    }
}

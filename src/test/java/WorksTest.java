/** Promise 18: works. */
public final class WorksTest {
    private static final int UNKNOWN = StoneKeep.UNKNOWN, OUTSIDE = StoneKeep.OUTSIDE, NONE = StoneKeep.NONE;

    public static void main(String[] args) {
        refused();
        sharedScaffold();
        zonesOfTheYear();
        coinOfEachYear();
        firstOfLikeOnes();
        sixBlocks();
        Due.end();
    }

    private static StoneKeep withBlocks(int blocks, int rate) {
        StoneKeep x = new StoneKeep();
        x.rate(0, 0, 0, rate);
        for (int b = 0; b < blocks; b++) {
            x.block(0, 0, 2000);
        }
        return x;
    }

    private static void refused() {
        StoneKeep x = withBlocks(30, 1);
        int all = (1 << 30) - 1;
        int[][] outside = {{0, 0, 1, 0, NONE}, {1 << 30, 0, 1, 0, NONE}, {1 << 31, 0, 1, 0, NONE},
            {-1, 0, 1, 0, NONE}, {all, 0, 1, 0, NONE}, {127, 0, 1, 0, NONE}, {1, -1, 1, 0, NONE},
            {1, 397, 1, 0, NONE}, {1, 0, 0, 0, NONE}, {1, 0, 5, 0, NONE}, {1, 0, 1, -1, NONE},
            {1, 0, 1, 1001, NONE}, {1, 0, 1, 0, 1}, {2, 0, 1, 0, 0}};
        for (int[] o : outside) {
            Due.is("works outside", x.works(o[0], o[1], o[2], o[3], o[4]), OUTSIDE);
            Due.is("works outside, no block", x.works(o[0], o[1], o[2], o[3], 30), UNKNOWN);
            Due.is("works outside, below none", x.works(o[0], o[1], o[2], o[3], -2), UNKNOWN);
        }
        Due.is("works: the last block", x.works(1 << 29, 396, 4, 1000, 29), 396);
        Due.is("works: six", x.works(63 << 24, 0, 1, 0, NONE), 18);
        StoneKeep y = withBlocks(2, 1);
        Due.is("works: a block that there is not", y.works(5, 0, 1, 0, NONE), OUTSIDE);
        Due.is("works: set of none", y.works(0, 0, 1, 0, 0), OUTSIDE);
    }

    private static void sharedScaffold() {
        StoneKeep x = withBlocks(3, 1);
        x.place(1, 0, 0, 0, 1);
        // alone: 10 + 12 + 25 = 47 against 3 * 13 = 39; two that share: 69 against 78
        Due.is("alone", x.works(1, 12, 1, 1000, NONE), 39);
        Due.is("alone: its year", x.works(1, 12, 1, 1000, 0), NONE);
        Due.is("shared", x.works(5, 12, 1, 1000, NONE), 69);
        Due.is("shared: the first", x.works(5, 12, 1, 1000, 0), 12);
        Due.is("shared: the second", x.works(5, 12, 1, 1000, 2), 12);
        Due.is("two zones", x.works(3, 12, 1, 1000, NONE), 78);
        Due.is("two zones: not done", x.works(3, 12, 1, 1000, 1), NONE);
        Due.is("not done: lost at the end", x.works(1, 12, 4, 0, NONE), 48);
    }

    /** From year 21 on all are in one zone: there one scaffold is saved, and nothing is lost meanwhile. */
    private static void zonesOfTheYear() {
        StoneKeep x = withBlocks(2, 30);
        x.place(0, 19, 1, 0, 6);
        x.place(1, 19, 1, 0, 7);
        x.rate(0, 1, 0, 0);
        x.place(1, 21, 1, 0, 6);
        // lost 570: spent in one year on one block 605, on both 1175: too much; two years with a scaffold each
        Due.is("zones: each alone", x.works(3, 20, 4, 605, NONE), 1210);
        Due.is("zones: the first", x.works(3, 20, 4, 605, 0), 20);
        Due.is("zones: the second", x.works(3, 20, 4, 605, 1), 21);
        StoneKeep y = withBlocks(2, 10);
        y.place(0, 19, 1, 0, 6);
        y.place(1, 19, 1, 0, 7);
        y.rate(0, 1, 0, 0);
        y.place(1, 21, 1, 0, 6);
        Due.is("zones: one scaffold", y.works(3, 20, 4, 1000, NONE), 425);
        Due.is("zones: one scaffold, the first", y.works(3, 20, 4, 1000, 0), 21);
        Due.is("zones: one scaffold, the second", y.works(3, 20, 4, 1000, 1), 21);
        Due.is("zones: ahead of the move", y.works(3, 20, 1, 1000, NONE), 450);
    }

    private static void coinOfEachYear() {
        StoneKeep x = withBlocks(2, 10);
        // both at 10: 245; one of them 135, the other a year on 145
        Due.is("coin enough", x.works(3, 10, 2, 245, NONE), 245);
        Due.is("coin enough: the second", x.works(3, 10, 2, 245, 1), 10);
        Due.is("coin for one a year", x.works(3, 10, 2, 244, NONE), 280);
        Due.is("coin for one a year: the first", x.works(3, 10, 2, 244, 0), 10);
        Due.is("coin for one a year: the second", x.works(3, 10, 2, 244, 1), 11);
        Due.is("coin for the first year alone", x.works(3, 10, 2, 144, NONE), 495);
        Due.is("coin for the first year alone: the first", x.works(3, 10, 2, 144, 0), 10);
        Due.is("coin for the first year alone: the second", x.works(3, 10, 2, 144, 1), NONE);
        Due.is("coin for none", x.works(3, 10, 2, 134, NONE), 720);
        Due.is("no coin", x.works(3, 10, 2, 0, 0), NONE);
    }

    private static void firstOfLikeOnes() {
        StoneKeep x = withBlocks(2, 0);
        // nothing is lost: not done costs nothing
        Due.is("nothing lost", x.works(3, 0, 4, 1000, NONE), 0);
        Due.is("nothing lost: not done", x.works(3, 0, 4, 1000, 0), NONE);
        x.rate(0, 0, 0, 12);
        x.place(0, 1, 1, 0, 0);
        x.place(1, 1, 1, 0, 1);
        x.rate(0, 1, 0, 0);
        // lost 12 from year 1 on: done 47, not done 36
        Due.is("dear works", x.works(3, 1, 4, 1000, 0), NONE);
        StoneKeep y = withBlocks(2, 35);
        y.place(0, 1, 1, 0, 0);
        y.place(1, 1, 1, 0, 0);
        y.rate(0, 1, 0, 0);
        // lost 35: each year is like the others
        Due.is("like years", y.works(3, 5, 4, 1000, NONE), 115);
        Due.is("like years: the first", y.works(3, 5, 4, 1000, 0), 5);
        Due.is("like years: the second", y.works(3, 5, 4, 1000, 1), 5);
        Due.is("like years, a work a year", y.works(3, 5, 4, 70, NONE), 140);
        Due.is("like years, a work a year: the first", y.works(3, 5, 4, 70, 0), 5);
        Due.is("like years, a work a year: the second", y.works(3, 5, 4, 70, 1), 6);
        StoneKeep z = withBlocks(1, 35);
        z.place(0, 1, 1, 0, 0);
        z.rate(0, 1, 0, 0);
        z.rate(0, 2, 0, 1);
        z.place(0, 2, 2, 0, 0);
        z.place(0, 3, 1, 0, 0);
        // at 1 lost 35: 70; not done at the end 3 * 36
        Due.is("earlier is less", z.works(1, 1, 3, 1000, NONE), 70);
        StoneKeep w = new StoneKeep();
        w.rate(0, 0, 0, 35);
        w.block(0, 0, 1);
        w.place(0, 1, 1, 0, 0);
        w.rate(0, 1, 0, 0);
        w.rate(1, 0, 0, 0);
        w.block(1, 0, 1);
        // done 35 and 35 more against 105: not like; done is first where both are like
        Due.is("done at 70", w.works(1, 1, 1, 70, 0), 1);
        w.rate(0, 0, 0, 17);
        Due.is("not done at 51", w.works(1, 1, 1, 1000, NONE), 51);
        StoneKeep v = new StoneKeep();
        v.rate(0, 0, 0, 5);
        v.rate(0, 1, 0, 0);
        for (int b = 0; b < 4; b++) {
            v.block(0, 0, 1);
            v.place(b, 3, 1, 0, 0);
        }
        // lost 15: three done in one year 75 + 25 are less by 35 than 135; four not done 180, four done 125
        Due.is("four done", v.works(15, 5, 2, 1000, NONE), 125);
        Due.is("coin for three", v.works(15, 5, 1, 100, NONE), 145);
        Due.is("coin for three: the last is left", v.works(15, 5, 1, 100, 3), NONE);
        Due.is("coin for three: the third", v.works(15, 5, 1, 100, 2), 5);
        StoneKeep u = new StoneKeep();
        u.rate(0, 0, 0, 50);
        u.rate(0, 1, 0, 0);
        u.rate(1, 0, 0, 10);
        u.block(0, 0, 1);
        u.place(0, 1, 1, 0, 0);
        // lost at 1: 50, done 85 against 150
        Due.is("done of like ones", u.works(1, 1, 4, 85, 0), 1);
        StoneKeep t = new StoneKeep();
        t.rate(0, 0, 0, 35);
        t.rate(0, 1, 0, 0);
        t.block(0, 0, 1);
        t.block(0, 0, 1);
        t.place(0, 1, 1, 0, 0);
        t.place(1, 1, 1, 0, 0);
        t.rate(0, 0, 0, 10);
        // lost 10: both done 65, both left 60; lost 20 after a second year at 10
        Due.is("both left", t.works(3, 1, 1, 1000, NONE), 60);
        t.rate(0, 2, 0, 5);
        t.place(0, 4, 2, 0, 0);
        t.place(0, 5, 1, 0, 0);
        // the first comes to 15: done by 4 it costs 10 + 10 + 25, left 45: like, and done is first
        Due.is("done and left cost the same", t.works(1, 4, 1, 1000, NONE), 45);
        Due.is("done is ahead of left", t.works(1, 4, 1, 1000, 0), 4);
    }

    /** Six blocks in six zones and four years: one a year at most, so four are done. */
    private static void sixBlocks() {
        StoneKeep x = withBlocks(6, 50);
        x.rate(0, 1, 0, 0);
        for (int b = 0; b < 6; b++) {
            x.place(b, 4, 1, 0, b);
        }
        int[] due = {396, 397, 398, 399, NONE, NONE};
        Due.is("six: sum", x.works(63, 396, 4, 235, NONE), 4 * 235 + 2 * 600);
        for (int b = 0; b < 6; b++) {
            Due.is("six: " + b, x.works(63, 396, 4, 235, b), due[b]);
        }
        Due.is("six: four a year", x.works(63, 396, 4, 940, NONE), 6 * 235);
        Due.is("six: the fourth", x.works(63, 396, 4, 940, 3), 396);
        Due.is("six: the fifth", x.works(63, 396, 4, 940, 4), 397);
        Due.is("six: only asked", x.count(0), 6);
    }
}

/** Promises 10 to 12: look, habit, state. */
public final class LooksTest {
    private static final int UNKNOWN = StoneKeep.UNKNOWN, OUTSIDE = StoneKeep.OUTSIDE, FULL = StoneKeep.FULL;
    private static final int NONE = StoneKeep.NONE, NOT = StoneKeep.NOT;

    public static void main(String[] args) {
        look();
        doubles();
        habit();
        habitWrong();
        state();
        stateOfAllHands();
        stateRefused();
        manyLooks();
        Due.end();
    }

    private static void look() {
        StoneKeep x = new StoneKeep();
        Due.is("look: no block", x.look(0, 0, 0, 0), UNKNOWN);
        x.block(0, 200, 100);
        int[][] wrong = {{-1, 0, 0}, {4, 0, 0}, {0, -1, 0}, {0, 401, 0}, {0, 0, -1}, {0, 0, 100}};
        for (int[] w : wrong) {
            Due.is("look wrong", x.look(0, w[0], w[1], w[2]), OUTSIDE);
            Due.is("look wrong, no block", x.look(1, w[0], w[1], w[2]), UNKNOWN);
        }
        Due.is("look: none came", x.count(3), 0);
        Due.is("look least, ahead of the laying", x.look(0, 0, 0, 0), 0);
        Due.is("look most", x.look(0, 3, 400, 99), 1);
        for (int i = 2; i < 80; i++) {
            Due.is("look " + i, x.look(0, 1, 5, 7), i);
        }
        Due.is("look 81st, wrong", x.look(0, 4, 0, 0), OUTSIDE);
        Due.is("look 81st", x.look(0, 2, 5, 0), FULL);
        Due.is("look: eighty", x.count(3), 80);
        Due.is("look 81st changes nothing", x.count(4), 0);
    }

    private static void doubles() {
        StoneKeep x = new StoneKeep();
        x.block(0, 0, 1);
        x.block(0, 0, 1);
        x.look(0, 0, 5, 10);
        x.look(0, 0, 5, 20);
        Due.is("doubles of one hand", x.count(4), 0);
        x.look(1, 1, 5, 20);
        Due.is("doubles of two blocks", x.count(4), 0);
        x.look(0, 1, 6, 20);
        Due.is("doubles of two years", x.count(4), 0);
        x.look(0, 1, 5, 40);
        Due.is("doubles with both looks of a hand", x.count(4), 2);
        Due.is("habit by two doubles", x.habit(1, NONE, 0), 25);
        Due.is("habit by two doubles, lower", x.habit(1, NONE, 1), 2);
        Due.is("habit by two doubles, other", x.habit(0, NONE, 0), -25);
        Due.is("habit by two doubles, other lower", x.habit(0, NONE, 1), 2);
    }

    private static void habit() {
        StoneKeep x = new StoneKeep();
        x.block(0, 0, 1);
        x.block(0, 0, 1);
        x.look(0, 0, 5, 40);
        x.look(0, 1, 5, 33);
        x.look(1, 2, 9, 0);
        x.look(1, 0, 9, 1);
        x.look(1, 0, 9, 0);
        Due.is("habit at 0", x.habit(0, 0, 0), 0);
        Due.is("habit at 0, lower", x.habit(0, 0, 1), 1);
        Due.is("habit at 1", x.habit(0, 1, 0), 0);
        Due.is("habit at 2", x.habit(0, 2, 0), 7);
        Due.is("habit at 2, lower", x.habit(0, 2, 1), 2);
        Due.is("habit at 2 of the other", x.habit(1, 2, 0), -7);
        Due.is("habit at 2 of the other, lower", x.habit(1, 2, 1), 2);
        Due.is("habit at 3", x.habit(0, 3, 0), 7);
        Due.is("habit at 4", x.habit(0, 4, 0), 2);
        Due.is("habit at 4, lower", x.habit(0, 4, 1), 1);
        Due.is("habit at 5", x.habit(0, 5, 0), 4);
        Due.is("habit at 5, lower", x.habit(0, 5, 1), 3);
        Due.is("habit of all", x.habit(0, NONE, 0), 4);
        Due.is("habit of all, lower", x.habit(0, NONE, 1), 3);
        Due.is("habit at 2 again", x.habit(0, 2, 0), 7);
        Due.is("habit at 0 again", x.habit(0, 0, 0), 0);
        Due.is("doubles after that", x.count(4), 3);
        Due.is("doubles again", x.count(4), 3);
        Due.is("habit of the third", x.habit(2, NONE, 0), -1);
        Due.is("habit of the third, lower", x.habit(2, NONE, 1), 4);
        Due.is("habit without", x.habit(3, NONE, 0), 0);
        Due.is("habit without, lower", x.habit(3, NONE, 1), 1);
        StoneKeep y = new StoneKeep();
        y.block(0, 0, 1);
        y.look(0, 0, 5, 40);
        y.look(0, 1, 5, 40);
        Due.is("habit of like grades", y.habit(0, NONE, 0), 0);
        Due.is("habit of like grades, lower", y.habit(0, NONE, 1), 1);
    }

    private static void habitWrong() {
        StoneKeep x = new StoneKeep();
        x.block(0, 0, 1);
        x.look(0, 0, 5, 40);
        Due.is("habit: hand -1", x.habit(-1, NONE, 0), OUTSIDE);
        Due.is("habit: hand 4", x.habit(4, NONE, 0), OUTSIDE);
        Due.is("habit: k -2", x.habit(0, -2, 0), OUTSIDE);
        Due.is("habit: k of all", x.habit(0, 1, 1), 1);
        Due.is("habit: k beyond", x.habit(0, 2, 0), OUTSIDE);
        Due.is("habit: what -1", x.habit(0, NONE, -1), OUTSIDE);
        Due.is("habit: what 2", x.habit(0, NONE, 2), OUTSIDE);
    }

    private static void state() {
        StoneKeep x = new StoneKeep();
        x.block(0, 0, 1);
        x.block(0, 0, 1);
        x.look(0, 0, 20, 30);
        x.look(0, 0, 10, 80);
        x.look(0, 0, 10, 81);
        Due.is("state: latest year, not last told", x.state(0, 30, NONE, 0), 30);
        Due.is("state: in the year", x.state(0, 20, NONE, 0), 30);
        Due.is("state: year before", x.state(0, 19, NONE, 0), 161);
        Due.is("state: mean, lower", x.state(0, 19, NONE, 1), 2);
        Due.is("state as known by 2", x.state(0, 19, 2, 0), 80);
        Due.is("state as known by 1", x.state(0, 19, 1, 0), NOT);
        x.look(1, 0, 3, 9);
        x.look(1, 1, 3, 2);
        Due.is("state with a habit", x.state(0, 30, NONE, 0), 53);
        Due.is("state with a habit, lower", x.state(0, 30, NONE, 1), 2);
        Due.is("state as known without the double", x.state(0, 30, 4, 0), 30);
        Due.is("state of the double", x.state(1, 30, NONE, 0), 11);
        Due.is("state of the double, lower", x.state(1, 30, NONE, 1), 2);
        x.look(0, 1, 40, 0);
        x.look(1, 1, 41, 0);
        x.look(1, 0, 41, 50);
        x.look(1, 1, 41, 90);
        x.look(1, 0, 42, 0);
        // hand 0 is by 7, 50 and -40 above the other: 17/6
        Due.is("state below 0", x.state(1, 42, NONE, 0), -17);
        Due.is("state below 0, lower", x.state(1, 42, NONE, 1), 6);
        Due.is("state a look ahead", x.state(1, 42, 9, 0), 857);
        Due.is("state a look ahead, lower", x.state(1, 42, 9, 1), 18);
    }

    /** Four hands with habits of unlike lower numbers at one block. */
    private static void stateOfAllHands() {
        StoneKeep x = new StoneKeep();
        x.block(0, 0, 1);
        x.look(0, 0, 1, 10);
        x.look(0, 1, 1, 13);
        x.look(0, 2, 2, 50);
        x.look(0, 1, 2, 40);
        x.look(0, 3, 2, 44);
        x.look(0, 0, 3, 20);
        x.look(0, 0, 3, 21);
        x.look(0, 2, 3, 22);
        Due.is("hand 0", x.habit(0, NONE, 0) * 100L + x.habit(0, NONE, 1), -100 + 1);
        Due.is("hand 1", x.habit(1, NONE, 0) * 100L + x.habit(1, NONE, 1), -1100 + 6);
        Due.is("hand 2", x.habit(2, NONE, 0) * 100L + x.habit(2, NONE, 1), 1900 + 8);
        Due.is("hand 3", x.habit(3, NONE, 0) * 100L + x.habit(3, NONE, 1), -100 + 2);
        // 134 less (-11/6 + 19/8 - 1/2), by three
        Due.is("state of three hands", x.state(0, 2, NONE, 0), 3215);
        Due.is("state of three hands, lower", x.state(0, 2, NONE, 1), 72);
        // 63 less (-1 - 1 + 19/8), by three
        Due.is("state of two looks of a hand", x.state(0, 3, NONE, 0), 167);
        Due.is("state of two looks of a hand, lower", x.state(0, 3, NONE, 1), 8);
    }

    private static void stateRefused() {
        StoneKeep x = new StoneKeep();
        Due.is("state: no block", x.state(0, 401, 9, 9), UNKNOWN);
        x.block(0, 0, 1);
        Due.is("state: no look", x.state(0, 400, NONE, 0), NOT);
        Due.is("state: no look, lower", x.state(0, 400, NONE, 1), NOT);
        Due.is("state(-1)", x.state(-1, 0, NONE, 0), UNKNOWN);
        Due.is("state: year -1", x.state(0, -1, NONE, 0), OUTSIDE);
        Due.is("state: year 401", x.state(0, 401, NONE, 0), OUTSIDE);
        Due.is("state: k -2", x.state(0, 0, -2, 0), OUTSIDE);
        Due.is("state: k beyond", x.state(0, 0, 1, 0), OUTSIDE);
        Due.is("state: what -1", x.state(0, 0, NONE, -1), OUTSIDE);
        Due.is("state: what 2", x.state(0, 0, NONE, 2), OUTSIDE);
    }

    /** As many doubles as there can be: every number still has room. */
    private static void manyLooks() {
        StoneKeep x = new StoneKeep();
        x.block(0, 0, 1);
        for (int i = 0; i < 80; i++) {
            x.look(0, i % 4, 0, i % 4 == 0 ? 99 : 0);
        }
        Due.is("many: doubles", x.count(4), 2400);
        Due.is("many: habit", x.habit(0, NONE, 0), 99);
        Due.is("many: habit, lower", x.habit(0, NONE, 1), 2);
        Due.is("many: habit of another", x.habit(1, NONE, 0), -33);
        Due.is("many: habit of another, lower", x.habit(1, NONE, 1), 2);
        Due.is("many: state", x.state(0, 0, NONE, 0), 99);
        Due.is("many: state, lower", x.state(0, 0, NONE, 1), 4);
    }
}

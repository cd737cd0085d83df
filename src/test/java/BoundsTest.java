/** Every number of every call at its bounds: the first within, the last within, and what is just and far outside. */
public final class BoundsTest {
    private static final int BLOCKS = 3, LOOKS = 6, LOTS = 3;

    public static void main(String[] args) {
        madeAsTold();
        within();
        outside();
        nothingThere();
        Due.end();
    }

    /** The objects hold what their names say: without that the rest would say nothing. */
    private static void madeAsTold() {
        int[] some = {BLOCKS, 2, 2, LOOKS, 1, 2, 9, LOTS, 5};
        int[] full = {30, 60, 60, 80, 90, 6, 120, 20, 19};
        for (int what = 0; what <= 8; what++) {
            Due.is("empty: count " + what, Made.EMPTY.object().count(what), 0);
            Due.is("some: count " + what, Made.SOME.object().count(what), some[what]);
            Due.is("full: count " + what, Made.FULL.object().count(what), full[what]);
        }
        Due.is("some: a fault", Made.SOME.object().fault(), 4);
        Due.is("full: no fault", Made.FULL.object().fault(), -1);
        Due.is("full: the text is sound", Made.FULL.object().read(), 1);
    }

    private static void within() {
        for (Bound call : Bound.all(BLOCKS, LOOKS, LOTS)) {
            for (int place = 0; place < call.inside().length; place++) {
                accepted(call, place, call.bounds()[place][0]);
                accepted(call, place, call.bounds()[place][1]);
            }
        }
    }

    private static void accepted(Bound call, int place, long number) {
        if (call.isFree(place) && !call.name().equals("feed")) {
            return;
        }
        long[] a = call.with(place, number);
        long answer = Calls.answer(Made.SOME.object(), call.name(), a);
        boolean refused = answer == StoneKeep.UNKNOWN || answer == StoneKeep.OUTSIDE || answer == StoneKeep.FULL;
        Due.holds("within its bounds: " + Calls.told(call.name(), a) + " answered " + answer, !refused);
    }

    private static void outside() {
        Sentence.quote("What is refused changes nothing.");
        for (Bound call : Bound.all(BLOCKS, LOOKS, LOTS)) {
            for (int place = 0; place < call.inside().length; place++) {
                if (!call.isFree(place)) {
                    for (long number : call.outside(place)) {
                        Refusal.is(Made.SOME, call.refusal(place), call.name(), call.with(place, number));
                    }
                }
            }
        }
    }

    /** A new object has nothing that a number could name, not even 0. */
    private static void nothingThere() {
        Sentence.quote("No BLOCKS, LOOKS, LOTS; no RULE; all as at first.");
        for (Bound call : Bound.all(1, 0, 1)) {
            boolean names = call.refusal(0) == StoneKeep.UNKNOWN;
            if (names) {
                Refusal.is(Made.EMPTY, StoneKeep.UNKNOWN, call.name(), call.inside());
            }
        }
        Refusal.is(Made.EMPTY, StoneKeep.OUTSIDE, "habit", 0, 1, 0);
        Refusal.is(Made.EMPTY, StoneKeep.OUTSIDE, "works", 1, 0, 1, 10, -1);
        Refusal.is(Made.EMPTY, StoneKeep.UNKNOWN, "works", 1, 0, 1, 10, 0);
    }
}

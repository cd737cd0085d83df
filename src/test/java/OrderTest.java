/** Of several refusals the first in the order UNKNOWN, OUTSIDE, NOT, FULL; and each of them changes nothing. */
public final class OrderTest {
    private static final long UNKNOWN = StoneKeep.UNKNOWN, OUTSIDE = StoneKeep.OUTSIDE;
    private static final long NOT = StoneKeep.NOT, FULL = StoneKeep.FULL;
    private static final String ORDER = "REFUSALS, of several the first in this order: UNKNOWN (a BLOCK, LOOK, LOT that"
        + " there is not), OUTSIDE (another number out of its bounds), NOT (not now, as told), FULL.";

    public static void main(String[] args) {
        unknownAheadOfOutside();
        unknownAheadOfNot();
        outsideAheadOfNot();
        full();
        unknownAndOutsideAheadOfFull();
        worksInOrder();
        Due.end();
    }

    /** Any two numbers of a call out of their bounds at once. */
    private static void unknownAheadOfOutside() {
        Sentence.quote(ORDER);
        for (Bound call : Bound.all(3, 6, 3)) {
            for (int one = 0; one < call.inside().length; one++) {
                for (int other = one + 1; other < call.inside().length; other++) {
                    if (!call.isFree(one) && !call.isFree(other)) {
                        both(call, one, other);
                    }
                }
            }
        }
    }

    private static void both(Bound call, int one, int other) {
        long due = Math.max(call.refusal(one), call.refusal(other));
        for (long number : call.outside(one)) {
            for (long second : call.outside(other)) {
                long[] a = call.with(one, number);
                a[other] = second;
                Due.is(Calls.told(call.name(), a), Calls.answer(Made.SOME.object(), call.name(), a), due);
            }
        }
        long[] a = call.with(one, call.outside(one)[0]);
        a[other] = call.outside(other)[1];
        Refusal.is(Made.SOME, due, call.name(), a);
    }

    private static void unknownAheadOfNot() {
        Sentence.quote(ORDER);
        Refusal.is(Made.FULL, NOT, "take", 0);
        Refusal.is(Made.FULL, UNKNOWN, "take", 20);
        Refusal.is(Made.SOME, NOT, "take", 1);
        Refusal.is(Made.SOME, UNKNOWN, "take", 3);
        // no BLOCK, so no LOOK at it either
        Refusal.is(Made.SOME, UNKNOWN, "state", 3, 400, 0, 0);
        Refusal.is(Made.EMPTY, UNKNOWN, "state", 0, 0, -1, 0);
    }

    private static void outsideAheadOfNot() {
        Sentence.quote(ORDER);
        Refusal.is(Made.SOME, NOT, "state", 0, 400, 0, 0);
        Refusal.is(Made.SOME, NOT, "state", 0, 400, 0, 1);
        Refusal.is(Made.SOME, OUTSIDE, "state", 0, 400, 0, 2);
        Refusal.is(Made.SOME, OUTSIDE, "state", 0, 400, 0, -1);
        Refusal.is(Made.SOME, OUTSIDE, "state", 0, 401, 0, 0);
        Refusal.is(Made.SOME, OUTSIDE, "state", 0, -1, -1, 0);
        Refusal.is(Made.FULL, NOT, "state", 29, 400, -1, 0);
        Refusal.is(Made.FULL, OUTSIDE, "state", 29, 400, 81, 0);
        Refusal.is(Made.FULL, OUTSIDE, "state", 29, 400, -2, 0);
    }

    private static boolean canBeFull(Bound call) {
        switch (call.name()) {
            case "block": case "place": case "mortar": case "look": case "feed": case "lot": return true;
            default: return false;
        }
    }

    private static void full() {
        Sentence.quote(ORDER);
        for (Bound call : Bound.all(30, 80, 20)) {
            if (canBeFull(call)) {
                Refusal.is(Made.FULL, FULL, call.name(), call.inside());
                for (int place = 0; place < call.inside().length; place++) {
                    Refusal.is(Made.FULL, FULL, call.name(), call.with(place, call.bounds()[place][0]));
                    Refusal.is(Made.FULL, FULL, call.name(), call.with(place, call.bounds()[place][1]));
                }
            }
        }
    }

    private static void unknownAndOutsideAheadOfFull() {
        Sentence.quote(ORDER);
        for (Bound call : Bound.all(30, 80, 20)) {
            for (int place = 0; canBeFull(call) && place < call.inside().length; place++) {
                if (!call.isFree(place)) {
                    for (long number : call.outside(place)) {
                        Refusal.is(Made.FULL, call.refusal(place), call.name(), call.with(place, number));
                    }
                }
            }
        }
        Refusal.is(Made.FULL, UNKNOWN, "place", 30, 401, 4, 4, 8);
        Refusal.is(Made.FULL, UNKNOWN, "mortar", -1, -1, 1);
        Refusal.is(Made.FULL, UNKNOWN, "look", 30, -1, -1, -1);
    }

    /** UNKNOWN is told of the BLOCK that is asked for alone; of the SET it is OUTSIDE. */
    private static void worksInOrder() {
        Sentence.quote("UNKNOWN (b), OUTSIDE (b not of the SET, too).");
        long[] sets = {0, 8, 9, 1 << 30, Integer.MIN_VALUE, Integer.MAX_VALUE, -1};
        for (long set : sets) {
            Refusal.is(Made.SOME, OUTSIDE, "works", set, 10, 1, 100, -1);
            Refusal.is(Made.SOME, OUTSIDE, "works", set, 10, 1, 100, 2);
            Refusal.is(Made.SOME, UNKNOWN, "works", set, 10, 1, 100, 3);
            Refusal.is(Made.SOME, UNKNOWN, "works", set, 397, 5, 1001, -2);
        }
        for (long b : new long[] {3, -2, 31, 32, Integer.MIN_VALUE, Integer.MAX_VALUE}) {
            Refusal.is(Made.SOME, UNKNOWN, "works", 7, 10, 1, 100, b);
            Refusal.is(Made.SOME, UNKNOWN, "works", 7, -1, 0, -1, b);
        }
        Refusal.is(Made.SOME, OUTSIDE, "works", 5, 10, 1, 100, 1);
        Refusal.is(Made.SOME, OUTSIDE, "works", 2, 10, 1, 100, 0);
        Refusal.is(Made.FULL, OUTSIDE, "works", 127, 10, 1, 100, 0);
        Refusal.is(Made.FULL, OUTSIDE, "works", 63, 10, 1, 100, 6);
        Refusal.is(Made.FULL, UNKNOWN, "works", 127, 10, 1, 100, 30);
    }
}

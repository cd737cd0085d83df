import java.util.ArrayList;
import java.util.EnumMap;
import java.util.List;
import java.util.Map;

/** A call that is refused: what it answers, and that nothing that can be seen is another than without it. */
final class Refusal {
    private static final Map<Made, List<List<String>>> UNTOUCHED = new EnumMap<>(Made.class);

    private Refusal() {
    }

    static boolean isOne(long answer) {
        return answer <= StoneKeep.UNKNOWN && answer >= StoneKeep.FULL;
    }

    static void is(Made made, long due, String name, long... a) {
        String call = made + ": " + Calls.told(name, a);
        for (int part = 0; part < Made.PARTS; part++) {
            StoneKeep x = made.object();
            Due.is(call, Calls.answer(x, name, a), due);
            same(call, untouched(made).get(part), Made.seen(x, part));
        }
    }

    private static List<List<String>> untouched(Made made) {
        if (!UNTOUCHED.containsKey(made)) {
            List<List<String>> parts = new ArrayList<>();
            for (int part = 0; part < Made.PARTS; part++) {
                parts.add(Made.seen(made.object(), part));
            }
            UNTOUCHED.put(made, parts);
        }
        return UNTOUCHED.get(made);
    }

    private static void same(String call, List<String> without, List<String> with) {
        for (int i = 0; i < without.size(); i++) {
            Due.holds(call + " changes nothing: " + with.get(i) + ", without it " + without.get(i),
                without.get(i).equals(with.get(i)));
        }
    }
}

import java.util.Arrays;
import java.util.Random;

/** All promises: long runs of calls, made from seeds, are answered as the model answers them. */
public final class ModelTest {
    private static final String[] PIECES = {"lost", "state", "wet", "side", "stone", "age", "harm", "leave", "mend",
        "change", "<", ">", "&", "=", ";", " ", "0", "7", "12", "345", "6789", "losty", "A", "\0", "\u00ff"};
    private static final String[] NAMES = {"lost", "state", "wet", "side", "stone", "age", "harm"};
    private static final String[] ACTS = {"leave", "mend", "change"};
    private static final int[] EDGES = {-1, -2, 0, 1, 3, 4, 6, 7, 8, 29, 30, 50, 51, 99, 100, 396, 397, 400, 401,
        1000, 1001, 2000, 2001, Integer.MAX_VALUE, Integer.MIN_VALUE};

    private final Random random;
    private final StoneKeep keep = new StoneKeep();
    private final Model model = new Model();
    private final int years;
    private int calls = 1;

    private ModelTest(long seed) {
        random = new Random(seed);
        // few years make doubles and like placings, many make long losses
        years = random.nextBoolean() ? 12 : 401;
    }

    public static void main(String[] args) {
        for (long seed = 0; seed < 300; seed++) {
            ModelTest run = new ModelTest(seed);
            for (int turn = 0; turn < 512 && run.calls < 490; turn++) {
                run.turn(seed);
            }
        }
        Due.end();
    }

    private int below(int bound, int from) {
        if (random.nextInt(60) == 0) {
            return EDGES[random.nextInt(EDGES.length)];
        }
        return from + random.nextInt(bound);
    }

    private int year() {
        return below(years, 0);
    }

    private int b() {
        return below(8, 0);
    }

    private void turn(long seed) {
        int kind = random.nextInt(34);
        int[] a = numbers(kind);
        String call = "seed " + seed + ", call " + calls + ", kind " + kind + " " + Arrays.toString(a);
        if (kind >= 29) {
            readText(call);
        } else {
            calls++;
            Due.is(call, kept(kind, a), modelled(kind, a));
        }
    }

    private int[] numbers(int kind) {
        switch (kind) {
            case 0: case 1: return new int[] {below(4, 0), year(), below(random.nextBoolean() ? 60 : 2000, 1)};
            case 2: case 3: case 4: return new int[] {b(), year(), below(4, 0), below(4, 0), below(3, 0)};
            case 5: case 6: return new int[] {b(), year(), random.nextInt(2)};
            case 7: return new int[] {below(4, 0), below(4, 0), below(4, 0), below(51, 0)};
            case 8: return new int[] {below(100, 1)};
            case 9: case 10: return new int[] {b(), year(), below(9, 0)};
            case 11: return new int[] {below(9, 0)};
            case 12: return new int[] {year(), below(10, 0)};
            case 13: case 14: case 15: case 16: return new int[] {b(), below(4, 0), year(), below(100, 0)};
            case 17: return new int[] {below(4, 0), below(40, -1), below(2, 0)};
            case 18: case 19: return new int[] {b(), year(), below(20, -1), below(2, 0)};
            case 20: case 21: return new int[] {b(), year()};
            case 22: return new int[] {year(), below(3, 0)};
            case 23: case 24: return works();
            case 25: case 26: return new int[] {below(4, 0), below(12, 0), below(12, 0), below(12, 0), below(4, 0)};
            case 27: return new int[] {below(5, -1), below(12, 0), below(12, 0), below(12, 0), below(9, 0)};
            default: return new int[] {below(12, 0)};
        }
    }

    private int[] works() {
        int set = random.nextInt(60) == 0 ? random.nextInt() : 0;
        for (int i = random.nextInt(7); i > 0; i--) {
            set |= 1 << random.nextInt(7);
        }
        int b = random.nextInt(8);
        if ((set >> b & 1) == 0 && random.nextInt(10) > 0) {
            b = -1;
        }
        return new int[] {set, year(), below(4, 1), below(random.nextBoolean() ? 200 : 1001, 0), b};
    }

    private long kept(int kind, int[] a) {
        switch (kind) {
            case 0: case 1: return keep.block(a[0], a[1], a[2]);
            case 2: case 3: case 4: return keep.place(a[0], a[1], a[2], a[3], a[4]);
            case 5: case 6: return keep.mortar(a[0], a[1], a[2] == 1);
            case 7: return keep.rate(a[0], a[1], a[2], a[3]);
            case 8: return keep.limit(a[0]);
            case 9: case 10: return keep.told(a[0], a[1], a[2]);
            case 11: return keep.count(a[0]);
            case 12: return keep.worst(a[0], a[1]);
            case 13: case 14: case 15: case 16: return keep.look(a[0], a[1], a[2], a[3]);
            case 17: return keep.habit(a[0], a[1], a[2]);
            case 18: case 19: return keep.state(a[0], a[1], a[2], a[3]);
            case 20: case 21: return keep.judged(a[0], a[1]);
            case 22: return keep.acts(a[0], a[1]);
            case 23: case 24: return keep.works(a[0], a[1], a[2], a[3], a[4]);
            case 25: case 26: return keep.lot(a[0], a[1], a[2], a[3], a[4]);
            case 27: return keep.match(a[0], a[1], a[2], a[3], a[4]);
            default: return keep.take(a[0]);
        }
    }

    private long modelled(int kind, int[] a) {
        switch (kind) {
            case 0: case 1: return model.block(a[0], a[1], a[2]);
            case 2: case 3: case 4: return model.place(a[0], a[1], a[2], a[3], a[4]);
            case 5: case 6: return model.mortar(a[0], a[1], a[2] == 1);
            case 7: return model.rate(a[0], a[1], a[2], a[3]);
            case 8: return model.limit(a[0]);
            case 9: case 10: return model.told(a[0], a[1], a[2]);
            case 11: return model.count(a[0]);
            case 12: return model.worst(a[0], a[1]);
            case 13: case 14: case 15: case 16: return model.look(a[0], a[1], a[2], a[3]);
            case 17: return model.habit(a[0], a[1], a[2]);
            case 18: case 19: return model.state(a[0], a[1], a[2], a[3]);
            case 20: case 21: return model.judged(a[0], a[1]);
            case 22: return model.acts(a[0], a[1]);
            case 23: case 24: return model.works(a[0], a[1], a[2], a[3], a[4]);
            case 25: case 26: return model.lot(a[0], a[1], a[2], a[3], a[4]);
            case 27: return model.match(a[0], a[1], a[2], a[3], a[4]);
            default: return model.take(a[0]);
        }
    }

    /** Feeds a text in parts of eight bytes, reads it and asks for its fault. */
    private void readText(String call) {
        String text = random.nextInt(4) == 0 ? junk() : spoilt(sound());
        for (int from = 0; from < text.length(); from += 8) {
            String part = text.substring(from, Math.min(from + 8, text.length()));
            long bytes = random.nextInt(256);
            for (int i = 0; i < part.length(); i++) {
                bytes = bytes << 8 | part.charAt(i);
            }
            int n = below(1, part.length());
            calls++;
            Due.is(call + " feed '" + part + "'", keep.feed(n, bytes), model.feed(n, bytes));
        }
        if (random.nextInt(8) > 0) {
            calls += 4;
            Due.is(call + " read '" + text + "'", keep.read(), model.read());
            Due.is(call + " fault '" + text + "'", keep.fault(), model.fault());
            Due.is(call + " clauses '" + text + "'", keep.count(5), model.count(5));
            Due.is(call + " bytes '" + text + "'", keep.count(6), model.count(6));
        }
    }

    private String junk() {
        StringBuilder text = new StringBuilder();
        for (int i = random.nextInt(12); i > 0; i--) {
            text.append(PIECES[random.nextInt(PIECES.length)]);
        }
        return text.toString();
    }

    private String sound() {
        StringBuilder text = new StringBuilder();
        int clauses = random.nextInt(12) == 0 ? 7 : random.nextInt(4);
        for (int c = 0; c < clauses; c++) {
            int tests = clauses > 5 ? 1 : random.nextInt(12) == 0 ? 4 : 1 + random.nextInt(3);
            for (int t = 0; t < tests; t++) {
                text.append(t == 0 ? "" : "&").append(random.nextInt(9) == 0 ? " " : "");
                text.append(NAMES[random.nextInt(NAMES.length)]).append(random.nextBoolean() ? "<" : ">");
                text.append(random.nextInt(random.nextBoolean() ? 4 : 60)).append(random.nextInt(9) == 0 ? " " : "");
            }
            text.append("=").append(ACTS[random.nextInt(3)]).append(";");
        }
        return text.toString();
    }

    private String spoilt(String text) {
        if (random.nextInt(3) > 0) {
            return text;
        }
        int at = random.nextInt(text.length() + 1);
        String piece = PIECES[random.nextInt(PIECES.length)];
        int skipped = random.nextBoolean() ? at : Math.min(text.length(), at + 1 + random.nextInt(2));
        return text.substring(0, at) + (random.nextInt(4) == 0 ? "" : piece) + text.substring(skipped);
    }
}

import java.math.BigInteger;
import java.util.ArrayList;
import java.util.List;
import java.util.Map;
import java.util.TreeMap;

/** The document's words again, by lists and plain counting, without any thought of room or speed. */
final class Model {
    private static final int NONE = -1, UNKNOWN = -1001, OUTSIDE = -1002, NOT = -1003, FULL = -1004;
    private static final List<String> NAMES = List.of("lost", "state", "wet", "side", "stone", "age", "harm");
    private static final List<String> ACTS = List.of("leave", "mend", "change");

    private record Block(int stone, int year, int deep) { }
    private record Placing(int b, int year, int side, int wet, int zone) { }
    private record Mortar(int b, int year, boolean wrong) { }
    private record Look(int b, int hand, int year, int grade) { }
    private record Test(int name, char sign, int number) { }
    private record Clause(List<Test> tests, int act) { }
    private record Lot(int stone, int strength, int pores, int colour, int pieces) { }
    private record Token(int at, String text) { }

    private final List<Block> blocks = new ArrayList<>();
    private final List<Placing> placings = new ArrayList<>();
    private final List<Mortar> mortars = new ArrayList<>();
    private final List<Look> looks = new ArrayList<>();
    private final List<Lot> lots = new ArrayList<>();
    private final Map<String, Integer> rates = new TreeMap<>();
    private List<Clause> rule = new ArrayList<>();
    private String text = "";
    private int faultAt = NONE;
    private int limit = 50;

    private static boolean in(int v, int least, int most) {
        return least <= v && v <= most;
    }

    private boolean noBlock(int b) {
        return !in(b, 0, blocks.size() - 1);
    }

    int block(int stone, int year, int deep) {
        if (!in(stone, 0, 3) || !in(year, 0, 400) || !in(deep, 1, 2000)) return OUTSIDE;
        if (blocks.size() == 30) return FULL;
        blocks.add(new Block(stone, year, deep));
        return blocks.size() - 1;
    }

    int place(int b, int year, int side, int wet, int zone) {
        if (noBlock(b)) return UNKNOWN;
        if (!in(year, 0, 400) || !in(side, 0, 3) || !in(wet, 0, 3) || !in(zone, 0, 7)) return OUTSIDE;
        if (placings.size() == 60) return FULL;
        placings.add(new Placing(b, year, side, wet, zone));
        return placings.size();
    }

    int mortar(int b, int year, boolean wrong) {
        if (noBlock(b)) return UNKNOWN;
        if (!in(year, 0, 400)) return OUTSIDE;
        if (mortars.size() == 60) return FULL;
        mortars.add(new Mortar(b, year, wrong));
        return mortars.size();
    }

    int rate(int stone, int side, int wet, int v) {
        if (!in(stone, 0, 3) || !in(side, 0, 3) || !in(wet, 0, 3) || !in(v, 0, 50)) return OUTSIDE;
        Integer old = rates.put(stone + "/" + side + "/" + wet, v);
        return old == null ? 1 : old;
    }

    int limit(int v) {
        if (!in(v, 1, 100)) return OUTSIDE;
        int old = limit;
        limit = v;
        return old;
    }

    private Placing placing(int b, int year) {
        Placing rules = new Placing(b, -1, 0, 0, 0);
        for (Placing p : placings) {
            if (p.b == b && p.year <= year && p.year >= rules.year) rules = p;
        }
        return rules;
    }

    private boolean harm(int b, int year) {
        Mortar rules = new Mortar(b, -1, false);
        for (Mortar m : mortars) {
            if (m.b == b && m.year <= year && m.year >= rules.year) rules = m;
        }
        return rules.wrong;
    }

    private int lossIn(int b, int year) {
        Placing p = placing(b, year);
        int rate = rates.getOrDefault(blocks.get(b).stone + "/" + p.side + "/" + p.wet, 1);
        return harm(b, year) ? 2 * rate : rate;
    }

    private int lost(int b, int year) {
        int sum = 0;
        for (int y = blocks.get(b).year; y <= year - 1; y++) sum += lossIn(b, y);
        return sum;
    }

    private int danger(int b) {
        int sum = 0;
        for (int y = blocks.get(b).year; y <= 400; y++) {
            if (sum * 100 >= blocks.get(b).deep * limit) return y;
            sum += lossIn(b, y);
        }
        return NONE;
    }

    int told(int b, int year, int what) {
        if (noBlock(b)) return UNKNOWN;
        if (!in(year, 0, 400) || !in(what, 0, 8)) return OUTSIDE;
        Block k = blocks.get(b);
        Placing p = placing(b, year);
        int harm = harm(b, year) ? 1 : 0;
        return new int[] {k.stone, k.year, k.deep, p.side, p.wet, p.zone, harm, lost(b, year), danger(b)}[what];
    }

    int count(int what) {
        if (!in(what, 0, 8)) return OUTSIDE;
        int pieces = lots.stream().mapToInt(Lot::pieces).sum();
        return new int[] {blocks.size(), placings.size(), mortars.size(), looks.size(), doubles(looks.size()).size(),
            rule.size(), text.length(), lots.size(), pieces}[what];
    }

    int worst(int year, int i) {
        if (!in(year, 0, 400)) return OUTSIDE;
        List<int[]> rows = new ArrayList<>();
        for (int b = 0; b < blocks.size(); b++) {
            if (danger(b) != NONE) rows.add(new int[] {danger(b), -lost(b, year), b});
        }
        rows.sort(java.util.Arrays::compare);
        return in(i, 0, rows.size() - 1) ? rows.get(i)[2] : NONE;
    }

    int look(int b, int hand, int year, int grade) {
        if (noBlock(b)) return UNKNOWN;
        if (!in(hand, 0, 3) || !in(year, 0, 400) || !in(grade, 0, 99)) return OUTSIDE;
        if (looks.size() == 80) return FULL;
        looks.add(new Look(b, hand, year, grade));
        return looks.size() - 1;
    }

    private List<Look[]> doubles(int k) {
        List<Look[]> found = new ArrayList<>();
        for (Look a : looks.subList(0, k)) {
            for (Look c : looks.subList(0, k)) {
                if (a.hand < c.hand && a.b == c.b && a.year == c.year) found.add(new Look[] {a, c});
            }
        }
        return found;
    }

    private static BigInteger[] fraction(BigInteger up, BigInteger low) {
        BigInteger common = up.gcd(low);
        return new BigInteger[] {up.divide(common), low.divide(common)};
    }

    private static BigInteger[] fraction(long up, long low) {
        return fraction(BigInteger.valueOf(up), BigInteger.valueOf(low));
    }

    private static BigInteger[] sum(BigInteger[] a, BigInteger[] b) {
        return fraction(a[0].multiply(b[1]).add(b[0].multiply(a[1])), a[1].multiply(b[1]));
    }

    private BigInteger[] habit(int hand, int k) {
        int sum = 0;
        int n = 0;
        for (Look[] pair : doubles(k)) {
            for (int i = 0; i < 2; i++) {
                if (pair[i].hand == hand) {
                    sum += pair[i].grade - pair[1 - i].grade;
                    n++;
                }
            }
        }
        return n == 0 ? fraction(0, 1) : fraction(sum, 2L * n);
    }

    int habit(int hand, int k, int what) {
        if (!in(hand, 0, 3) || !in(k, NONE, looks.size()) || !in(what, 0, 1)) return OUTSIDE;
        return habit(hand, k == NONE ? looks.size() : k)[what].intValueExact();
    }

    private BigInteger[] state(int b, int year, int k) {
        int latest = NONE;
        for (Look l : looks.subList(0, k)) {
            if (l.b == b && l.year <= year) latest = Math.max(latest, l.year);
        }
        BigInteger[] sum = fraction(0, 1);
        int n = 0;
        for (Look l : looks.subList(0, k)) {
            if (l.b == b && l.year == latest) {
                BigInteger[] habit = habit(l.hand, k);
                sum = sum(sum(sum, fraction(l.grade, 1)), new BigInteger[] {habit[0].negate(), habit[1]});
                n++;
            }
        }
        return n == 0 ? null : fraction(sum[0], sum[1].multiply(BigInteger.valueOf(n)));
    }

    long state(int b, int year, int k, int what) {
        if (noBlock(b)) return UNKNOWN;
        if (!in(year, 0, 400) || !in(k, NONE, looks.size()) || !in(what, 0, 1)) return OUTSIDE;
        BigInteger[] state = state(b, year, k == NONE ? looks.size() : k);
        return state == null ? NOT : state[what].longValueExact();
    }

    int feed(int n, long bytes) {
        if (!in(n, 1, 8)) return OUTSIDE;
        if (text.length() + n > 120) return FULL;
        StringBuilder more = new StringBuilder();
        for (int i = 0; i < n; i++) more.insert(0, (char) (bytes >> 8 * i & 255));
        text += more;
        return text.length();
    }

    private static List<Token> tokens(String text) {
        List<Token> found = new ArrayList<>();
        var matcher = java.util.regex.Pattern.compile("[a-z]+|[0-9]+|[^ ]", java.util.regex.Pattern.DOTALL).matcher(text);
        while (matcher.find()) found.add(new Token(matcher.start(), matcher.group()));
        found.add(new Token(text.length(), ""));
        return found;
    }

    /** Steps: 0 a name or the end, 1 a sign, 2 a number, 3 '&' or '=', 4 an act, 5 ';', 6 a name behind '&'. */
    int read() {
        List<Clause> draft = new ArrayList<>();
        List<Test> tests = new ArrayList<>();
        int step = 0;
        int name = NONE;
        int act = NONE;
        char sign = ' ';
        int fault = 0;
        for (Token t : tokens(text)) {
            faultAt = t.at;
            String s = t.text;
            boolean number = s.matches("[0-9]+");
            boolean stands = switch (step) {
                case 0 -> s.isEmpty() || NAMES.contains(s);
                case 1 -> s.equals("<") || s.equals(">");
                case 2 -> number;
                case 3 -> s.equals("&") || s.equals("=");
                case 4 -> ACTS.contains(s);
                case 5 -> s.equals(";");
                default -> NAMES.contains(s);
            };
            if (!stands) fault = 1;
            else if (number && s.length() > 3) fault = 2;
            else if (step == 0 && !s.isEmpty() && draft.size() == 6) fault = 3;
            else if (step == 6 && tests.size() == 3) fault = 4;
            if (fault != 0 || s.isEmpty()) break;
            if (step == 0 || step == 6) name = NAMES.indexOf(s);
            if (step == 1) sign = s.charAt(0);
            if (step == 2) tests.add(new Test(name, sign, Integer.parseInt(s)));
            if (step == 4) act = ACTS.indexOf(s);
            if (step == 5) {
                draft.add(new Clause(tests, act));
                tests = new ArrayList<>();
            }
            step = step == 3 && s.equals("&") ? 6 : step == 6 ? 1 : (step + 1) % 6;
        }
        text = "";
        if (fault != 0) return -10 - fault;
        faultAt = NONE;
        rule = draft;
        return rule.size();
    }

    int fault() {
        return faultAt;
    }

    private Integer value(int name, int b, int year) {
        Block k = blocks.get(b);
        BigInteger[] state = name == 1 ? state(b, year, looks.size()) : null;
        return switch (name) {
            case 0 -> lost(b, year) * 100 / k.deep;
            case 1 -> state == null ? null : (Integer) state[0].divide(state[1]).intValueExact();
            case 2 -> placing(b, year).wet;
            case 3 -> placing(b, year).side;
            case 4 -> k.stone;
            case 5 -> year - k.year;
            default -> harm(b, year) ? 1 : 0;
        };
    }

    int judged(int b, int year) {
        if (noBlock(b)) return UNKNOWN;
        if (!in(year, 0, 400)) return OUTSIDE;
        for (Clause c : rule) {
            boolean all = true;
            for (Test t : c.tests) {
                Integer v = value(t.name, b, year);
                all &= v != null && (t.sign == '<' ? v < t.number : v > t.number);
            }
            if (all) return c.act;
        }
        return 0;
    }

    int acts(int year, int act) {
        if (!in(year, 0, 400) || !in(act, 0, 2)) return OUTSIDE;
        int n = 0;
        for (int b = 0; b < blocks.size(); b++) n += judged(b, year) == act ? 1 : 0;
        return n;
    }

    int works(int set, int year, int n, int coin, int b) {
        if (b != NONE && noBlock(b)) return UNKNOWN;
        List<Integer> in = new ArrayList<>();
        for (int k = 0; k < 32; k++) {
            if ((set >> k & 1) == 1) in.add(k);
        }
        if (!in(in.size(), 1, 6) || in.get(in.size() - 1) >= blocks.size() || (b != NONE && !in.contains(b))) return OUTSIDE;
        if (!in(year, 0, 396) || !in(n, 1, 4) || !in(coin, 0, 1000)) return OUTSIDE;
        int[][] lost = new int[in.size()][n + 1];
        int[][] zones = new int[in.size()][n];
        for (int i = 0; i < in.size(); i++) {
            for (int t = 0; t <= n; t++) lost[i][t] = lost(in.get(i), year + t);
            for (int t = 0; t < n; t++) zones[i][t] = placing(in.get(i), year + t).zone;
        }
        int ways = (int) Math.round(Math.pow(n + 1, in.size()));
        int least = Integer.MAX_VALUE;
        int[] best = null;
        for (int way = 0; way < ways; way++) {
            int[] years = new int[in.size()];
            for (int i = in.size() - 1, rest = way; i >= 0; i--, rest /= n + 1) years[i] = rest % (n + 1);
            int sum = cost(years, lost, zones, n, coin);
            if (sum < least) {
                least = sum;
                best = years;
            }
        }
        if (b == NONE) return least;
        int t = best[in.indexOf(b)];
        return t == n ? NONE : year + t;
    }

    private static int cost(int[] years, int[][] lost, int[][] zones, int n, int coin) {
        int sum = 0;
        for (int t = 0; t < n; t++) {
            int spent = 0;
            java.util.Set<Integer> scaffolds = new java.util.HashSet<>();
            for (int i = 0; i < years.length; i++) {
                if (years[i] == t) {
                    spent += 10 + lost[i][t];
                    scaffolds.add(zones[i][t]);
                }
            }
            spent += 25 * scaffolds.size();
            if (spent > coin) return Integer.MAX_VALUE;
            sum += spent;
        }
        for (int i = 0; i < years.length; i++) sum += years[i] == n ? 3 * lost[i][n] : 0;
        return sum;
    }

    int lot(int stone, int strength, int pores, int colour, int pieces) {
        if (!in(stone, 0, 3) || !in(strength, 0, 99) || !in(pores, 0, 99) || !in(colour, 0, 99) || !in(pieces, 0, 99)) return OUTSIDE;
        if (lots.size() == 20) return FULL;
        lots.add(new Lot(stone, strength, pores, colour, pieces));
        return lots.size() - 1;
    }

    int match(int stone, int strength, int pores, int colour, int span) {
        if (!in(stone, NONE, 3) || !in(strength, 0, 99) || !in(pores, 0, 99) || !in(colour, 0, 99) || !in(span, 0, 99)) return OUTSIDE;
        for (int sum = 0; sum <= 3 * span; sum++) {
            for (int i = 0; i < lots.size(); i++) {
                Lot l = lots.get(i);
                int[] off = {Math.abs(l.strength - strength), Math.abs(l.pores - pores), Math.abs(l.colour - colour)};
                boolean near = off[0] <= span && off[1] <= span && off[2] <= span;
                if (near && off[0] + off[1] + off[2] == sum && l.pieces > 0 && (stone == NONE || stone == l.stone)) return i;
            }
        }
        return NONE;
    }

    int take(int lot) {
        if (!in(lot, 0, lots.size() - 1)) return UNKNOWN;
        Lot l = lots.get(lot);
        if (l.pieces == 0) return NOT;
        lots.set(lot, new Lot(l.stone, l.strength, l.pores, l.colour, l.pieces - 1));
        return l.pieces - 1;
    }
}

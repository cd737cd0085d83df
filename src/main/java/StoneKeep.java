import java.util.Arrays;

/** A monument block by block: how its stones weather, how they are looked at, judged, mended and matched. */
public final class StoneKeep {
    public static final int NONE = -1, UNKNOWN = -1001, OUTSIDE = -1002, NOT = -1003, FULL = -1004;

    private static final int LAST_YEAR = 400, YEARS = LAST_YEAR + 1;
    private static final int STONES = 4, SIDES = 4, WETS = 4, ZONES = 8, SPOTS = SIDES * WETS;
    private static final int MOST_BLOCKS = 30, MOST_RULINGS = 60, DEEPEST = 2000;
    private static final int MOST_RATE = 50, MOST_LIMIT = 100;
    private static final int HANDS = 4, MOST_LOOKS = 80, MOST_GRADE = 99;
    private static final int MOST_BYTES = 120, MOST_FED = 8, MOST_CLAUSES = 6, MOST_TESTS = 3, MOST_FIGURES = 3;
    private static final int NAMES = 7, ACTS = 3;
    private static final int LOST = 0, STATE = 1, WET = 2, SIDE = 3, STONE = 4, AGE = 5, HARM = 6;
    private static final int MISPLACED = 1, LONG_NUMBER = 2, SEVENTH_CLAUSE = 3, FOURTH_TEST = 4;
    private static final int MOST_WORKS = 6, MOST_SPAN = 4, LAST_START = 396, MOST_COIN = 1000;
    private static final int WORK = 10, SCAFFOLD = 25, NEGLECT = 3;
    private static final int MOST_LOTS = 20, MOST_QUALITY = 99;
    private static final int BEYOND = 1000000000;

    private final Monument monument = new Monument();
    private final Course course = new Course();
    private final Looks looks = new Looks();
    private final Fraction fraction = new Fraction();
    private final Reader reader = new Reader();
    private final int[] facts = new int[NAMES];
    private final Plan plan = new Plan();
    private final Stocks stocks = new Stocks();

    public StoneKeep() {
    }

    // ---- blocks

    public int block(int stone, int year, int deep) {
        if (!isBelow(stone, STONES) || !isBelow(year, YEARS) || deep < 1 || deep > DEEPEST) {
            return OUTSIDE;
        }
        return monument.addBlock(stone, year, deep);
    }

    public int place(int b, int year, int side, int wet, int zone) {
        if (!monument.hasBlock(b)) {
            return UNKNOWN;
        }
        if (!isBelow(year, YEARS) || !isSpot(side, wet) || !isBelow(zone, ZONES)) {
            return OUTSIDE;
        }
        return monument.placings.add(b, year, zone * SPOTS + spot(side, wet));
    }

    public int mortar(int b, int year, boolean wrong) {
        if (!monument.hasBlock(b)) {
            return UNKNOWN;
        }
        if (!isBelow(year, YEARS)) {
            return OUTSIDE;
        }
        return monument.mortars.add(b, year, wrong ? 1 : 0);
    }

    public int rate(int stone, int side, int wet, int v) {
        if (!isBelow(stone, STONES) || !isSpot(side, wet) || v < 0 || v > MOST_RATE) {
            return OUTSIDE;
        }
        return monument.changeRate(stone, spot(side, wet), v);
    }

    public int limit(int v) {
        if (v < 1 || v > MOST_LIMIT) {
            return OUTSIDE;
        }
        return monument.changeLimit(v);
    }

    public int told(int b, int year, int what) {
        if (!monument.hasBlock(b)) {
            return UNKNOWN;
        }
        if (!isBelow(year, YEARS)) {
            return OUTSIDE;
        }
        course.follow(monument, b);
        switch (what) {
            case 0: return monument.stoneOf(b);
            case 1: return monument.laidOf(b);
            case 2: return monument.deepOf(b);
            case 3: return course.sideAt(year);
            case 4: return course.wetAt(year);
            case 5: return course.zoneAt(year);
            case 6: return course.harmAt(year);
            case 7: return course.lostAt(year);
            case 8: return course.danger;
            default: return OUTSIDE;
        }
    }

    public int count(int what) {
        switch (what) {
            case 0: return monument.size;
            case 1: return monument.placings.size;
            case 2: return monument.mortars.size;
            case 3: return looks.size;
            case 4: return looks.countDoubles();
            case 5: return reader.rule.clauses;
            case 6: return reader.size;
            case 7: return stocks.size;
            case 8: return stocks.countPieces();
            default: return OUTSIDE;
        }
    }

    public int worst(int year, int i) {
        if (!isBelow(year, YEARS)) {
            return OUTSIDE;
        }
        return monument.findWorst(course, year, i);
    }

    // ---- looks

    public int look(int b, int hand, int year, int grade) {
        if (!monument.hasBlock(b)) {
            return UNKNOWN;
        }
        if (!isBelow(hand, HANDS) || !isBelow(year, YEARS) || grade < 0 || grade > MOST_GRADE) {
            return OUTSIDE;
        }
        return looks.add(b, hand, year, grade);
    }

    public int habit(int hand, int k, int what) {
        if (!isBelow(hand, HANDS) || !looks.canBeKnown(k) || !isBelow(what, 2)) {
            return OUTSIDE;
        }
        looks.findHabit(hand, looks.knownBy(k), fraction);
        return (int) fraction.part(what);
    }

    public long state(int b, int year, int k, int what) {
        if (!monument.hasBlock(b)) {
            return UNKNOWN;
        }
        if (!isBelow(year, YEARS) || !looks.canBeKnown(k) || !isBelow(what, 2)) {
            return OUTSIDE;
        }
        if (!looks.findState(b, year, looks.knownBy(k), fraction)) {
            return NOT;
        }
        return fraction.part(what);
    }

    // ---- the rule

    public int feed(int n, long bytes) {
        if (n < 1 || n > MOST_FED) {
            return OUTSIDE;
        }
        return reader.append(n, bytes);
    }

    public int read() {
        return reader.readText();
    }

    public int fault() {
        return reader.faultAt;
    }

    public int judged(int b, int year) {
        if (!monument.hasBlock(b)) {
            return UNKNOWN;
        }
        if (!isBelow(year, YEARS)) {
            return OUTSIDE;
        }
        return judge(b, year);
    }

    public int acts(int year, int act) {
        if (!isBelow(year, YEARS) || !isBelow(act, ACTS)) {
            return OUTSIDE;
        }
        int found = 0;
        for (int b = 0; b < monument.size && b < MOST_BLOCKS; b++) {
            if (judge(b, year) == act) {
                found++;
            }
        }
        return found;
    }

    // ---- works, stocks

    public int works(int set, int year, int n, int coin, int b) {
        if (b != NONE && !monument.hasBlock(b)) {
            return UNKNOWN;
        }
        if (!monument.hasBlocks(set) || Integer.bitCount(set) > MOST_WORKS || (b != NONE && !hasBit(set, b))) {
            return OUTSIDE;
        }
        if (year < 0 || year > LAST_START || n < 1 || n > MOST_SPAN || coin < 0 || coin > MOST_COIN) {
            return OUTSIDE;
        }
        plan.begin(year, n, coin);
        for (int k = 0; k < monument.size && k < MOST_BLOCKS; k++) {
            if (hasBit(set, k)) {
                course.follow(monument, k);
                plan.addBlock(k, course);
            }
        }
        Plan.search(plan, 0, 0);
        return b == NONE ? plan.least : plan.yearOf(b);
    }

    public int lot(int stone, int strength, int pores, int colour, int pieces) {
        if (!isBelow(stone, STONES) || !isQuality(strength) || !isQuality(pores) || !isQuality(colour)
                || !isQuality(pieces)) {
            return OUTSIDE;
        }
        return stocks.add(stone, strength, pores, colour, pieces);
    }

    public int match(int stone, int strength, int pores, int colour, int span) {
        if ((stone != NONE && !isBelow(stone, STONES)) || !isQuality(strength) || !isQuality(pores)
                || !isQuality(colour) || !isQuality(span)) {
            return OUTSIDE;
        }
        return stocks.findMatch(stone, strength, pores, colour, span);
    }

    public int take(int lot) {
        if (!isBelow(lot, stocks.size)) {
            return UNKNOWN;
        }
        return stocks.takePiece(lot);
    }

    private int judge(int b, int year) {
        int deep = monument.deepOf(b);
        course.follow(monument, b);
        facts[LOST] = deep > 0 ? course.lostAt(year) * 100 / deep : 0;
        boolean hasState = looks.findState(b, year, looks.size, fraction);
        facts[STATE] = hasState ? fraction.cut() : 0;
        facts[WET] = course.wetAt(year);
        facts[SIDE] = course.sideAt(year);
        facts[STONE] = monument.stoneOf(b);
        facts[AGE] = year - monument.laidOf(b);
        facts[HARM] = course.harmAt(year);
        return reader.rule.decide(facts, hasState);
    }

    private static boolean isBelow(int v, int bound) {
        return v >= 0 && v < bound;
    }

    private static boolean isSpot(int side, int wet) {
        return isBelow(side, SIDES) && isBelow(wet, WETS);
    }

    private static boolean isQuality(int v) {
        return v >= 0 && v <= MOST_QUALITY;
    }

    private static int spot(int side, int wet) {
        return side * WETS + wet;
    }

    private static boolean hasBit(int set, int k) {
        return isBelow(k, MOST_BLOCKS) && ((set >>> k) & 1) == 1;
    }

    /** The one way in which rows are read at a number that comes from elsewhere: none such can miss the row. */
    private static int at(int[] row, int i) {
        return i >= 0 && i < row.length ? row[i] : 0;
    }

    /** What is told of blocks from a year on: the latest year rules, of like ones the last told. */
    private static final class Rulings {
        private final int[] blocks = new int[MOST_RULINGS];
        private final int[] years = new int[MOST_RULINGS];
        private final int[] values = new int[MOST_RULINGS];
        private final int[] since = new int[YEARS];
        private int size;

        int add(int b, int year, int value) {
            if (!isBelow(size, MOST_RULINGS)) {
                return FULL;
            }
            blocks[size] = b;
            years[size] = year;
            values[size] = value;
            size++;
            return size;
        }

        /** Writes what rules of a block in each year, 0 ahead of all. */
        void spread(int b, int[] into) {
            Arrays.fill(into, 0);
            Arrays.fill(since, NONE);
            for (int i = 0; i < size && i < MOST_RULINGS; i++) {
                if (blocks[i] == b) {
                    spreadFrom(years[i], values[i], into);
                }
            }
        }

        private void spreadFrom(int year, int value, int[] into) {
            for (int y = Math.max(year, 0); y < YEARS && y < into.length; y++) {
                // not less, but not above: of like years the last told rules
                if (since[y] <= year) {
                    since[y] = year;
                    into[y] = value;
                }
            }
        }
    }

    private static final class Monument {
        private final int[] stones = new int[MOST_BLOCKS];
        private final int[] laid = new int[MOST_BLOCKS];
        private final int[] deeps = new int[MOST_BLOCKS];
        private final int[] rates = new int[STONES * SPOTS];
        private final Rulings placings = new Rulings();
        private final Rulings mortars = new Rulings();
        private final int[] dangers = new int[MOST_BLOCKS];
        private final int[] losses = new int[MOST_BLOCKS];
        private int size;
        private int limit = 50;

        Monument() {
            Arrays.fill(rates, 1);
        }

        int addBlock(int stone, int year, int deep) {
            if (!isBelow(size, MOST_BLOCKS)) {
                return FULL;
            }
            stones[size] = stone;
            laid[size] = year;
            deeps[size] = deep;
            size++;
            return size - 1;
        }

        boolean hasBlock(int b) {
            return isBelow(b, size);
        }

        /** Whether a set has blocks, and none that there is not. */
        boolean hasBlocks(int set) {
            return set != 0 && (set >>> size) == 0;
        }

        int stoneOf(int b) {
            return at(stones, b);
        }

        int laidOf(int b) {
            return at(laid, b);
        }

        int deepOf(int b) {
            return at(deeps, b);
        }

        int rateOf(int stone, int spot) {
            return at(rates, stone * SPOTS + spot);
        }

        int changeRate(int stone, int spot, int v) {
            int i = stone * SPOTS + spot;
            int old = at(rates, i);
            if (isBelow(i, rates.length)) {
                rates[i] = v;
            }
            return old;
        }

        int changeLimit(int v) {
            int old = limit;
            limit = v;
            return old;
        }

        boolean isDanger(int b, int lost) {
            return lost * 100 >= deepOf(b) * limit;
        }

        int findWorst(Course course, int year, int i) {
            for (int b = 0; b < size && b < MOST_BLOCKS; b++) {
                course.follow(this, b);
                dangers[b] = course.danger;
                losses[b] = course.lostAt(year);
            }
            for (int b = 0; b < size && b < MOST_BLOCKS; b++) {
                if (dangers[b] != NONE && countWorseThan(b) == i) {
                    return b;
                }
            }
            return NONE;
        }

        private int countWorseThan(int b) {
            int worse = 0;
            for (int other = 0; other < size && other < MOST_BLOCKS; other++) {
                if (dangers[other] != NONE && isWorse(other, b)) {
                    worse++;
                }
            }
            return worse;
        }

        private boolean isWorse(int a, int b) {
            if (at(dangers, a) != at(dangers, b)) {
                return at(dangers, a) < at(dangers, b);
            }
            if (at(losses, a) != at(losses, b)) {
                return at(losses, a) > at(losses, b);
            }
            return a < b;
        }
    }

    /** What one block comes to in all years; the rows are filled anew for each block, to make no others. */
    private static final class Course {
        private final int[] placed = new int[YEARS];
        private final int[] wrong = new int[YEARS];
        private final int[] lost = new int[YEARS];
        private int danger = NONE;

        void follow(Monument monument, int b) {
            monument.placings.spread(b, placed);
            monument.mortars.spread(b, wrong);
            int stone = monument.stoneOf(b);
            int laid = monument.laidOf(b);
            int sum = 0;
            danger = NONE;
            for (int y = 0; y < YEARS; y++) {
                lost[y] = sum;
                if (danger == NONE && monument.isDanger(b, sum)) {
                    danger = y;
                }
                if (y >= laid) {
                    sum += monument.rateOf(stone, placed[y] % SPOTS) * (1 + wrong[y]);
                }
            }
        }

        int sideAt(int year) {
            return at(placed, year) % SPOTS / WETS;
        }

        int wetAt(int year) {
            return at(placed, year) % WETS;
        }

        int zoneAt(int year) {
            return at(placed, year) / SPOTS;
        }

        int harmAt(int year) {
            return at(wrong, year);
        }

        int lostAt(int year) {
            return at(lost, year);
        }
    }

    /** Looks in the order in which they were told: what was known at a time is what the first of them say. */
    private static final class Looks {
        private final int[] blocks = new int[MOST_LOOKS];
        private final int[] hands = new int[MOST_LOOKS];
        private final int[] years = new int[MOST_LOOKS];
        private final int[] grades = new int[MOST_LOOKS];
        private final int[] sums = new int[HANDS];
        private final int[] pairs = new int[HANDS];
        private final int[] seen = new int[HANDS];
        private int size;
        private int doubles;
        private int learned;

        int add(int b, int hand, int year, int grade) {
            if (!isBelow(size, MOST_LOOKS)) {
                return FULL;
            }
            blocks[size] = b;
            hands[size] = hand;
            years[size] = year;
            grades[size] = grade;
            size++;
            return size - 1;
        }

        boolean canBeKnown(int k) {
            return k == NONE || (k >= 0 && k <= size);
        }

        int knownBy(int k) {
            return k == NONE ? size : Math.min(Math.max(k, 0), size);
        }

        int countDoubles() {
            learnHabits(size);
            return doubles;
        }

        void findHabit(int hand, int known, Fraction into) {
            learnHabits(known);
            into.set(at(sums, hand), 2L * at(pairs, hand));
        }

        /** Whether a block has a state; it is written into the fraction then. */
        boolean findState(int b, int year, int known, Fraction into) {
            int latest = findLatest(b, year, known);
            if (latest == NONE) {
                return false;
            }
            learnHabits(known);
            Arrays.fill(seen, 0);
            int grade = 0;
            int found = 0;
            for (int i = 0; i < known && i < MOST_LOOKS; i++) {
                if (blocks[i] == b && years[i] == latest) {
                    grade += grades[i];
                    found++;
                    countFor(seen, hands[i], 1);
                }
            }
            into.set(grade, 1);
            // a hand once and not a look once: so the lower number stays below the product of four
            for (int hand = 0; hand < HANDS; hand++) {
                if (seen[hand] > 0 && pairs[hand] > 0) {
                    into.subtract((long) seen[hand] * sums[hand], 2L * pairs[hand]);
                }
            }
            into.divide(found);
            return true;
        }

        private int findLatest(int b, int year, int known) {
            int latest = NONE;
            for (int i = 0; i < known && i < MOST_LOOKS; i++) {
                if (blocks[i] == b && years[i] <= year && years[i] > latest) {
                    latest = years[i];
                }
            }
            return latest;
        }

        private void learnHabits(int known) {
            // looks are never taken back: what as many of them say stays as it is
            if (known == learned) {
                return;
            }
            learned = known;
            Arrays.fill(sums, 0);
            Arrays.fill(pairs, 0);
            doubles = 0;
            for (int j = 0; j < known && j < MOST_LOOKS; j++) {
                for (int i = 0; i < j; i++) {
                    if (areDouble(i, j)) {
                        doubles++;
                        int more = grades[i] - grades[j];
                        countFor(sums, hands[i], more);
                        countFor(sums, hands[j], -more);
                        countFor(pairs, hands[i], 1);
                        countFor(pairs, hands[j], 1);
                    }
                }
            }
        }

        private boolean areDouble(int i, int j) {
            return at(blocks, i) == at(blocks, j) && at(years, i) == at(years, j) && at(hands, i) != at(hands, j);
        }

        private static void countFor(int[] row, int hand, int more) {
            if (isBelow(hand, row.length)) {
                row[hand] += more;
            }
        }
    }

    /** A fraction in least terms, its lower number above 0. */
    private static final class Fraction {
        private long upper;
        private long lower = 1;

        /** Without a lower number above 0 it is 0: the mean of nothing. */
        void set(long up, long low) {
            upper = low > 0 ? up : 0;
            lower = low > 0 ? low : 1;
            reduce();
        }

        void subtract(long up, long low) {
            set(upper * low - up * lower, lower * low);
        }

        void divide(long by) {
            set(upper, lower * by);
        }

        long part(int what) {
            return what == 0 ? upper : lower;
        }

        int cut() {
            return lower > 0 ? (int) (upper / lower) : 0;
        }

        private void reduce() {
            long a = Math.abs(upper);
            long b = lower;
            // two longs have a common divisor after some ninety steps
            for (int step = 0; step < 200 && b > 0; step++) {
                long rest = a % b;
                a = b;
                b = rest;
            }
            if (a > 1) {
                upper /= a;
                lower /= a;
            }
        }
    }

    private static final class Rule {
        private final int[] names = new int[MOST_CLAUSES * MOST_TESTS];
        private final int[] signs = new int[MOST_CLAUSES * MOST_TESTS];
        private final int[] numbers = new int[MOST_CLAUSES * MOST_TESTS];
        private final int[] tests = new int[MOST_CLAUSES];
        private final int[] acts = new int[MOST_CLAUSES];
        private int clauses;

        void clear() {
            clauses = 0;
            Arrays.fill(tests, 0);
        }

        /** A test of the clause that is not ended yet. */
        void addTest(int name, int sign, int number) {
            int t = at(tests, clauses);
            if (isBelow(clauses, MOST_CLAUSES) && isBelow(t, MOST_TESTS)) {
                int i = clauses * MOST_TESTS + t;
                names[i] = name;
                signs[i] = sign;
                numbers[i] = number;
                tests[clauses] = t + 1;
            }
        }

        void endClause(int act) {
            if (isBelow(clauses, MOST_CLAUSES)) {
                acts[clauses] = act;
                clauses++;
            }
        }

        int decide(int[] facts, boolean hasState) {
            for (int c = 0; c < clauses && c < MOST_CLAUSES; c++) {
                if (isMet(c, facts, hasState)) {
                    return acts[c];
                }
            }
            return 0;
        }

        private boolean isMet(int clause, int[] facts, boolean hasState) {
            for (int t = 0; t < MOST_TESTS && t < at(tests, clause); t++) {
                int i = clause * MOST_TESTS + t;
                int name = at(names, i);
                if (name == STATE && !hasState) {
                    return false;
                }
                int fact = at(facts, name);
                boolean met = at(signs, i) == '<' ? fact < at(numbers, i) : fact > at(numbers, i);
                if (!met) {
                    return false;
                }
            }
            return true;
        }
    }

    /** Holds the text and reads it into a draft, so that a fault leaves the rule as it was. */
    private static final class Reader {
        private final int[] text = new int[MOST_BYTES];
        private int size;
        private int next;
        private int fault;
        private int faultAt = NONE;
        private Rule rule = new Rule();
        private Rule draft = new Rule();

        int append(int n, long bytes) {
            if (size + n > MOST_BYTES) {
                return FULL;
            }
            for (int i = n - 1; i >= 0 && isBelow(size, MOST_BYTES); i--) {
                text[size] = (int) ((bytes >>> (8 * i)) & 255);
                size++;
            }
            return size;
        }

        int readText() {
            next = 0;
            fault = 0;
            faultAt = NONE;
            draft.clear();
            skipBlanks();
            // one more than there may be: the seventh is a fault, so none comes behind it
            for (int c = 0; c <= MOST_CLAUSES && next < size && fault == 0; c++) {
                readClause();
                skipBlanks();
            }
            size = 0;
            if (fault != 0) {
                return -10 - fault;
            }
            Rule old = rule;
            rule = draft;
            draft = old;
            return rule.clauses;
        }

        private void readClause() {
            readTest(0);
            for (int t = 1; t <= MOST_TESTS && fault == 0 && isNext('&'); t++) {
                next++;
                readTest(t);
            }
            readSign('=');
            int act = readAct();
            readSign(';');
            if (fault == 0) {
                draft.endClause(act);
            }
        }

        private void readTest(int t) {
            skipBlanks();
            int start = next;
            int name = readName();
            if (t >= MOST_TESTS) {
                blame(FOURTH_TEST, start);
            } else if (draft.clauses >= MOST_CLAUSES) {
                blame(SEVENTH_CLAUSE, start);
            }
            int sign = isNext('<') ? '<' : '>';
            readSign(sign);
            int number = readNumber();
            if (fault == 0) {
                draft.addTest(name, sign, number);
            }
        }

        private int readName() {
            int start = next;
            int end = findWordEnd();
            for (int i = 0; i < NAMES; i++) {
                if (isWord(nameOf(i), start, end)) {
                    next = end;
                    return i;
                }
            }
            blame(MISPLACED, start);
            return NONE;
        }

        private int readAct() {
            skipBlanks();
            int start = next;
            int end = findWordEnd();
            for (int i = 0; i < ACTS; i++) {
                if (isWord(actOf(i), start, end)) {
                    next = end;
                    return i;
                }
            }
            blame(MISPLACED, start);
            return NONE;
        }

        private int readNumber() {
            skipBlanks();
            int start = next;
            int number = 0;
            for (int i = start; i < size && isIn('0', at(text, i), '9'); i++) {
                number = number * 10 + at(text, i) - '0';
                next = i + 1;
            }
            if (next == start) {
                blame(MISPLACED, start);
            } else if (next - start > MOST_FIGURES) {
                blame(LONG_NUMBER, start);
            }
            return number;
        }

        private void readSign(int sign) {
            if (isNext(sign)) {
                next++;
            } else {
                blame(MISPLACED, next);
            }
        }

        private boolean isNext(int sign) {
            skipBlanks();
            return next < size && at(text, next) == sign;
        }

        private void skipBlanks() {
            for (int i = next; i >= 0 && i < size && i < MOST_BYTES && text[i] == ' '; i++) {
                next = i + 1;
            }
        }

        private int findWordEnd() {
            int end = next;
            for (int i = next; i < size && isIn('a', at(text, i), 'z'); i++) {
                end = i + 1;
            }
            return end;
        }

        private static boolean isIn(int first, int sign, int last) {
            return first <= sign && sign <= last;
        }

        private boolean isWord(String word, int start, int end) {
            if (word.length() != end - start) {
                return false;
            }
            for (int i = 0; i < word.length(); i++) {
                if (at(text, start + i) != word.charAt(i)) {
                    return false;
                }
            }
            return true;
        }

        /** The first fault stands: the reading may go on behind it, but what it finds there tells nothing. */
        private void blame(int number, int where) {
            if (fault == 0) {
                fault = number;
                faultAt = where;
            }
        }

        private static String nameOf(int i) {
            switch (i) {
                case LOST: return "lost";
                case STATE: return "state";
                case WET: return "wet";
                case SIDE: return "side";
                case STONE: return "stone";
                case AGE: return "age";
                default: return "harm";
            }
        }

        private static String actOf(int i) {
            switch (i) {
                case 0: return "leave";
                case 1: return "mend";
                default: return "change";
            }
        }
    }

    /** The search for the best of all ways in which blocks are worked on in years, or left. */
    private static final class Plan {
        private final int[] blocks = new int[MOST_WORKS];
        private final int[] costs = new int[MOST_WORKS * MOST_SPAN];
        private final int[] zones = new int[MOST_WORKS * MOST_SPAN];
        private final int[] neglects = new int[MOST_WORKS];
        private final int[] chosen = new int[MOST_WORKS];
        private final int[] best = new int[MOST_WORKS];
        private final int[] spent = new int[MOST_SPAN];
        private final int[] scaffolds = new int[MOST_SPAN * ZONES];
        private int size;
        private int start;
        private int span;
        private int coin;
        private int least;

        void begin(int year, int n, int most) {
            size = 0;
            start = year;
            span = Math.min(n, MOST_SPAN);
            coin = most;
            least = BEYOND;
            Arrays.fill(spent, 0);
            Arrays.fill(scaffolds, 0);
        }

        void addBlock(int b, Course course) {
            if (isBelow(size, MOST_WORKS)) {
                blocks[size] = b;
                for (int t = 0; t < span && t < MOST_SPAN; t++) {
                    costs[size * MOST_SPAN + t] = WORK + course.lostAt(start + t);
                    zones[size * MOST_SPAN + t] = course.zoneAt(start + t);
                }
                neglects[size] = course.lostAt(start + span) * NEGLECT;
                size++;
            }
        }

        int yearOf(int b) {
            for (int i = 0; i < size && i < MOST_WORKS; i++) {
                if (blocks[i] == b && best[i] != NONE) {
                    return start + best[i];
                }
            }
            return NONE;
        }

        /** Tries the ways in the order in which the first of like ones counts; i blocks are settled, at most six. */
        private static void search(Plan plan, int i, int sum) {
            // nothing costs less than 0: from here no way is better than the best so far
            if (sum >= plan.least) {
                return;
            }
            if (i < 0 || i >= plan.size || i >= MOST_WORKS) {
                plan.keep(sum);
                return;
            }
            for (int t = 0; t < plan.span && t < MOST_SPAN; t++) {
                int cost = plan.doWork(i, t);
                if (at(plan.spent, t) <= plan.coin) {
                    search(plan, i + 1, sum + cost);
                }
                plan.undoWork(i, t, cost);
            }
            plan.chosen[i] = NONE;
            search(plan, i + 1, sum + plan.neglects[i]);
        }

        private void keep(int sum) {
            least = sum;
            System.arraycopy(chosen, 0, best, 0, MOST_WORKS);
        }

        /** Does the work on the i-th block in a year: what it costs, its scaffold too, if none stands there. */
        private int doWork(int i, int t) {
            int work = i * MOST_SPAN + t;
            int scaffold = t * ZONES + at(zones, work);
            int cost = at(costs, work) + (at(scaffolds, scaffold) == 0 ? SCAFFOLD : 0);
            change(scaffolds, scaffold, 1);
            change(spent, t, cost);
            if (isBelow(i, MOST_WORKS)) {
                chosen[i] = t;
            }
            return cost;
        }

        private void undoWork(int i, int t, int cost) {
            change(scaffolds, t * ZONES + at(zones, i * MOST_SPAN + t), -1);
            change(spent, t, -cost);
        }

        private static void change(int[] row, int i, int more) {
            if (isBelow(i, row.length)) {
                row[i] += more;
            }
        }
    }

    private static final class Stocks {
        private final int[] stones = new int[MOST_LOTS];
        private final int[] strengths = new int[MOST_LOTS];
        private final int[] pores = new int[MOST_LOTS];
        private final int[] colours = new int[MOST_LOTS];
        private final int[] pieces = new int[MOST_LOTS];
        private int size;

        int add(int stone, int strength, int pore, int colour, int piece) {
            if (!isBelow(size, MOST_LOTS)) {
                return FULL;
            }
            stones[size] = stone;
            strengths[size] = strength;
            pores[size] = pore;
            colours[size] = colour;
            pieces[size] = piece;
            size++;
            return size - 1;
        }

        int countPieces() {
            int all = 0;
            for (int i = 0; i < size && i < MOST_LOTS; i++) {
                all += pieces[i];
            }
            return all;
        }

        int findMatch(int stone, int strength, int pore, int colour, int span) {
            int found = NONE;
            int least = BEYOND;
            for (int i = 0; i < size && i < MOST_LOTS; i++) {
                int strengthOff = Math.abs(strengths[i] - strength);
                int poresOff = Math.abs(pores[i] - pore);
                int colourOff = Math.abs(colours[i] - colour);
                int off = strengthOff + poresOff + colourOff;
                boolean serves = pieces[i] > 0 && (stone == NONE || stones[i] == stone);
                boolean near = strengthOff <= span && poresOff <= span && colourOff <= span;
                if (serves && near && off < least) {
                    found = i;
                    least = off;
                }
            }
            return found;
        }

        int takePiece(int lot) {
            if (at(pieces, lot) < 1) {
                return NOT;
            }
            if (isBelow(lot, pieces.length)) {
                pieces[lot]--;
            }
            return at(pieces, lot);
        }
    }
}

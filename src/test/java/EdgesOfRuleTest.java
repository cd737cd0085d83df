/** The sentences of part 3 that name an edge: bytes, clauses, tests, numbers, blanks, faults, what the rule says. */
public final class EdgesOfRuleTest {
    private static final int OUTSIDE = StoneKeep.OUTSIDE, NONE = StoneKeep.NONE;
    private static final String CLAUSE = "age>1=mend;", SIX = CLAUSE.repeat(6);

    public static void main(String[] args) {
        lowestBytes();
        highestFirst();
        bytesAsTheyAre();
        emptyText();
        clauses();
        testsOfAClause();
        figures();
        blanks();
        noOtherBlanks();
        words();
        theEnd();
        theFirstByte();
        longNumbers();
        sevenClauses();
        fourTests();
        theLeast();
        readAgain();
        faultOfTheLatest();
        without();
        firstOfAllMet();
        actsOfNone();
        Due.end();
    }

    /** What a new object answers to a text, and where: read() * 1000 + fault(). */
    private static int readOf(String text) {
        StoneKeep x = new StoneKeep();
        Due.is("fed", text.isEmpty() ? 0 : Calls.feed(x, text), text.length());
        int answer = x.read();
        Due.is("bytes after '" + text + "'", x.count(6), 0);
        Due.is("clauses after '" + text + "'", x.count(5), Math.max(answer, 0));
        return answer * 1000 + x.fault();
    }

    private static void sound(String text, int clauses) {
        Due.is("read of '" + text + "'", readOf(text), clauses * 1000 + NONE);
    }

    private static void faulty(String text, int fault, int where) {
        Due.is("read of '" + text + "'", readOf(text), (-10 - fault) * 1000 + where);
    }

    private static StoneKeep ruled(String text) {
        StoneKeep x = new StoneKeep();
        x.block(0, 10, 3);
        Calls.feed(x, text);
        Due.holds("sound: " + text, x.read() >= 0);
        return x;
    }

    private static StoneKeep ruledAt0(String text) {
        StoneKeep x = new StoneKeep();
        x.block(0, 0, 3);
        Calls.feed(x, text);
        Due.is("read of " + text, x.read(), 1);
        return x;
    }

    private static void lowestBytes() {
        Sentence.quote("The n lowest bytes (n 1 .. 8) of a long");
        String text = "age<401=mend;   ";
        for (int n = 1; n <= 8; n++) {
            StoneKeep x = new StoneKeep();
            x.block(0, 0, 1);
            for (int from = 0; from + n <= text.length(); from += n) {
                // the bytes above the lowest n are full of what would be a fault
                long bytes = -1;
                for (int i = from; i < from + n; i++) {
                    bytes = bytes << 8 | text.charAt(i);
                }
                Due.is("feed of " + n, x.feed(n, bytes), from + n);
            }
            for (int i = text.length() / n * n; i < text.length(); i++) {
                x.feed(1, text.charAt(i));
            }
            Due.is("read by " + n, x.read(), 1);
            Due.is("judged by " + n, x.judged(0, 400), 1);
        }
        StoneKeep y = new StoneKeep();
        for (int n : new int[] {0, 9, -1, -8, 256, 257, Integer.MIN_VALUE, Integer.MAX_VALUE}) {
            Due.is("feed of " + n, y.feed(n, ';'), OUTSIDE);
        }
        Due.is("none came", y.count(6), 0);
    }

    private static void highestFirst() {
        Sentence.quote("the highest of these first, come behind THE TEXT: how many it has.");
        StoneKeep x = new StoneKeep();
        Due.is("eight", x.feed(8, 0x6167653e313d6d65L), 8);
        Due.is("three", x.feed(3, 0x6e643bL), 11);
        Due.is("read", x.read(), 1);
        Due.is("three turned", x.feed(3, 0x3b646eL), 3);
        Due.is("read", x.read(), -11);
    }

    /** A byte is 0 to 255: none of them is below 0, and the long's sign is a bit like others. */
    private static void bytesAsTheyAre() {
        Sentence.quote("The n lowest bytes (n 1 .. 8) of a long");
        long[] longs = {Long.MIN_VALUE, Long.MAX_VALUE, -1, 0, 0x8080808080808080L};
        for (long bytes : longs) {
            for (int n = 1; n <= 8; n++) {
                StoneKeep x = new StoneKeep();
                Due.is("feed", x.feed(n, bytes), n);
                Due.is("read", x.read(), -11);
                Due.is("fault", x.fault(), 0);
            }
        }
        // 256 more than a blank is a blank
        StoneKeep x = new StoneKeep();
        x.feed(1, 256 + 32);
        x.feed(1, Long.MIN_VALUE + 32);
        Due.is("blanks", x.read(), 0);
        for (char c = 128; c < 256; c++) {
            faulty(CLAUSE + c, 1, 11);
            faulty(c + CLAUSE, 1, 0);
        }
    }

    private static void emptyText() {
        Sentence.quote("An empty text (or one of blanks alone) has no FAULT.");
        for (int blanks = 0; blanks <= 120; blanks++) {
            sound(" ".repeat(blanks), 0);
        }
        StoneKeep x = ruled(CLAUSE);
        Due.is("a rule", x.judged(0, 400), 1);
        Due.is("an empty text", x.read(), 0);
        Due.is("no fault", x.fault(), NONE);
        Due.is("it is the rule", x.judged(0, 400), 0);
        Calls.feed(x, CLAUSE);
        x.read();
        Calls.feed(x, "   ");
        Due.is("blanks", x.read(), 0);
        Due.is("they are the rule", x.count(5), 0);
        Due.is("and say leave", x.judged(0, 400), 0);
    }

    private static void clauses() {
        Sentence.quote("clause = test {'&' test} '=' act ';'");
        for (int n = 1; n <= 6; n++) {
            sound(CLAUSE.repeat(n), n);
        }
        faulty("=mend;", 1, 0);
        faulty(";", 1, 0);
        faulty("mend;", 1, 0);
        faulty("&age>1=mend;", 1, 0);
        faulty("age>1;", 1, 5);
        faulty("age>1=;", 1, 6);
        faulty("age>1=mend", 1, 10);
        faulty("age>1=mend=leave;", 1, 10);
        faulty("age>1=mend;=leave;", 1, 11);
        faulty("age>1=mend;;", 1, 11);
        faulty("age>1=mend,age>1=mend;", 1, 10);
        faulty("age=mend;", 1, 3);
        faulty("age>=mend;", 1, 4);
        faulty("age1=mend;", 1, 3);
        faulty("age!1=mend;", 1, 3);
        faulty("1<age=mend;", 1, 0);
    }

    private static void testsOfAClause() {
        Sentence.quote("test = name ('<' | '>') NUMBER");
        String[] names = {"lost", "state", "wet", "side", "stone", "age", "harm"};
        String[] acts = {"leave", "mend", "change"};
        for (String name : names) {
            for (String act : acts) {
                sound(name + "<1=" + act + ";", 1);
                sound(name + ">1&" + name + "<2=" + act + ";", 1);
                sound(name + ">1&age<2&" + name + "<3=" + act + ";", 1);
            }
            faulty(name.substring(1) + "<1=mend;", 1, 0);
            faulty(name.substring(0, name.length() - 1) + "<1=mend;", 1, 0);
            faulty(name + "s<1=mend;", 1, 0);
            faulty(name + name + "<1=mend;", 1, 0);
            faulty("a" + name + "<1=mend;", 1, 0);
            faulty("age<1=" + name + ";", 1, 6);
        }
        for (String act : acts) {
            faulty(act + "<1=mend;", 1, 0);
            faulty("age<1=" + act.substring(1) + ";", 1, 6);
            faulty("age<1=" + act.substring(0, act.length() - 1) + ";", 1, 6);
            faulty("age<1=" + act + "s;", 1, 6);
            faulty("age<1&" + act + "=mend;", 1, 6);
        }
    }

    private static void figures() {
        Sentence.quote("NUMBERS have one to three figures");
        String[] numbers = {"0", "9", "00", "10", "99", "000", "001", "100", "999"};
        for (String number : numbers) {
            sound("age<" + number + "=mend;", 1);
            sound("age<1&age>" + number + "=mend;", 1);
        }
        faulty("age<=mend;", 1, 4);
        faulty("age<-1=mend;", 1, 4);
        faulty("age<+1=mend;", 1, 4);
        faulty("age<1.5=mend;", 1, 5);
        faulty("age<0000=mend;", 2, 4);
        faulty("age<1000=mend;", 2, 4);
        for (int years = 0; years < 3; years++) {
            StoneKeep x = ruled("age>00" + years + "=mend;");
            Due.is("00" + years + " is not above itself", x.judged(0, 10 + years), 0);
            Due.is("one above 00" + years, x.judged(0, 11 + years), 1);
        }
        StoneKeep y = ruled("lost>999=mend;lost<999=change;");
        Due.is("lost 0", y.judged(0, 10), 2);
        Due.is("lost 966 of 100", y.judged(0, 39), 2);
        Due.is("lost 1000 of 100", y.judged(0, 40), 1);
    }

    private static void blanks() {
        Sentence.quote("blanks (32) may stand anywhere but within words and NUMBERS");
        String[] parts = {"age", ">", "12", "&", "wet", "<", "3", "=", "change", ";", "harm", ">", "0", "=", "mend", ";"};
        for (int at = 0; at <= parts.length; at++) {
            for (int blanks = 1; blanks <= 3; blanks++) {
                sound(joined(parts, at, " ".repeat(blanks)), 2);
            }
        }
        sound(String.join("  ", parts), 2);
        sound("   " + String.join(" ", parts) + "   ", 2);
        // within a word the first part is another word; behind a NUMBER no NUMBER can stand
        faulty("a ge>12=mend;", 1, 0);
        faulty("ag e>12=mend;", 1, 0);
        faulty("age>12=m end;", 1, 7);
        faulty("age>12=men d;", 1, 7);
        faulty("age>1 2=mend;", 1, 6);
        faulty("age>1 234=mend;", 1, 6);
        faulty("age>1 2345=mend;", 1, 6);
    }

    private static String joined(String[] parts, int at, String blanks) {
        StringBuilder text = new StringBuilder();
        for (int i = 0; i < parts.length; i++) {
            text.append(i == at ? blanks : "").append(parts[i]);
        }
        return text.append(at == parts.length ? blanks : "").toString();
    }

    private static void noOtherBlanks() {
        Sentence.quote("blanks (32) may stand anywhere");
        for (char c = 0; c < 256; c++) {
            if (c != 32) {
                String text = "" + c + c;
                faulty(text, 1, 0);
                if (c != ';') {
                    faulty("age>1=mend" + c + ";", 1, c >= 'a' && c <= 'z' ? 6 : 10);
                }
                faulty("age>1=mend;" + c, 1, 11);
            }
        }
    }

    private static void words() {
        Sentence.quote("1 it cannot stand there (a word that cannot: at its first letter;"
            + " words are letters a .. z side by side).");
        faulty("  agex>1=mend;", 1, 2);
        faulty("agea>1=mend;", 1, 0);
        faulty("agez>1=mend;", 1, 0);
        faulty("age`>1=mend;", 1, 3);
        faulty("age{>1=mend;", 1, 3);
        faulty("ageA>1=mend;", 1, 3);
        faulty("ageZ>1=mend;", 1, 3);
        faulty("Age>1=mend;", 1, 0);
        faulty("aGe>1=mend;", 1, 0);
        faulty("age>1=menD;", 1, 6);
        faulty("age>1=mendD;", 1, 10);
        faulty("age_>1=mend;", 1, 3);
        faulty("age>1=mend_;", 1, 10);
        faulty("age>1=mend1;", 1, 10);
        faulty("age age>1=mend;", 1, 4);
        faulty("age>1age=mend;", 1, 5);
        faulty("age>1 mend;", 1, 6);
        faulty("age>age=mend;", 1, 4);
        faulty("age>1=mend mend;", 1, 11);
        faulty("age>1=mend;mend>1=mend;", 1, 11);
        faulty("agemend>1=mend;", 1, 0);
        faulty("z", 1, 0);
        faulty("z".repeat(120), 1, 0);
    }

    private static void theEnd() {
        Sentence.quote("FAULTS, at the first byte that has one (the end at the text's length)");
        String text = "age>12&wet<3=change;";
        int[] wordAt = {0, 0, 0, -1, -1, -1, -1, 7, 7, 7, -1, -1, -1, 13, 13, 13, 13, 13, 13, -1};
        for (int length = 1; length < text.length(); length++) {
            String start = text.substring(0, length);
            int word = length == 3 || length == 10 || length == 19 ? -1 : wordAt[length - 1];
            faulty(start, 1, word >= 0 ? word : length);
            faulty(start + "   ", 1, word >= 0 ? word : length + 3);
            faulty(text + start, 1, word >= 0 ? 20 + word : 20 + length);
        }
        sound(text, 1);
        faulty(" ".repeat(119) + "a", 1, 119);
        faulty(" ".repeat(117) + "age", 1, 120);
        faulty("age" + " ".repeat(117), 1, 120);
    }

    private static void theFirstByte() {
        Sentence.quote("FAULTS, at the first byte that has one");
        faulty("?age>1000=mend;", 1, 0);
        faulty("age>1000=?;", 2, 4);
        faulty("age>1=?;age>1000=mend;", 1, 6);
        faulty("age>1&age>2&age>3&age>4=mend;?", 4, 18);
        faulty("age>1?&age>2&age>3&age>4=mend;", 1, 5);
        faulty("age>1&age>2222&age>3&age>4=mend;", 2, 10);
        faulty(SIX + "?", 1, 66);
        faulty("age>1;" + SIX, 1, 5);
        faulty(CLAUSE.repeat(5) + "age>1000=mend;" + CLAUSE, 2, 59);
    }

    private static void longNumbers() {
        Sentence.quote("2 a NUMBER of four figures or more (at its first).");
        for (int figures = 4; figures <= 116; figures++) {
            faulty("age>" + "9".repeat(figures), 2, 4);
            faulty("age>" + "0".repeat(figures), 2, 4);
        }
        faulty("age>" + " ".repeat(50) + "1234=mend;", 2, 54);
        faulty("age>4294967296=mend;", 2, 4);
        faulty("age>1&wet<1&harm<1234=mend;", 2, 17);
        // with three figures the end is the first fault
        faulty("age>999", 1, 7);
    }

    private static void sevenClauses() {
        Sentence.quote("3 a seventh clause (at its first byte).");
        sound(SIX, 6);
        sound(SIX + " ".repeat(54), 6);
        faulty(SIX + CLAUSE, 3, 66);
        for (int blanks = 0; blanks <= 43; blanks++) {
            faulty(SIX + " ".repeat(blanks) + CLAUSE, 3, 66 + blanks);
        }
        String[] names = {"lost", "state", "wet", "side", "stone", "age", "harm"};
        for (String name : names) {
            faulty(SIX + name, 3, 66);
            faulty(SIX + name + "?", 3, 66);
        }
        faulty(SIX + CLAUSE + CLAUSE, 3, 66);
        faulty(SIX + "age>1&age>1&age>1&age>1=mend;", 3, 66);
        faulty(SIX + "age>1234=mend;", 3, 66);
    }

    private static void fourTests() {
        Sentence.quote("4 a fourth test in one (at its first byte).");
        String three = "age>1&age>2&age>3";
        sound(three + "=mend;", 1);
        sound((three + "=mend;").repeat(5), 5);
        faulty(three + "&age>4=mend;", 4, 18);
        faulty(three + "&  age>4=mend;", 4, 20);
        faulty(three + "  &age>4=mend;", 4, 20);
        faulty(three + "&age>4&age>5=mend;", 4, 18);
        faulty(three + "&age", 4, 18);
        faulty(three + "&age>4444=mend;", 4, 18);
        faulty(three + "=mend;" + three + "&age>4=mend;", 4, 41);
        String[] names = {"lost", "state", "wet", "side", "stone", "harm"};
        for (String name : names) {
            faulty(three + "&" + name, 4, 18);
        }
    }

    private static void theLeast() {
        Sentence.quote("of these the least");
        // at one byte: it cannot stand there, and it would be a long NUMBER, a seventh clause, a fourth test
        faulty("1234", 1, 0);
        faulty("age>1=1234;", 1, 6);
        faulty("age>1 1234=mend;", 1, 6);
        faulty(SIX + "agex>1=mend;", 1, 66);
        faulty(SIX + "mend", 1, 66);
        faulty(SIX + "1234", 1, 66);
        faulty(SIX + ";", 1, 66);
        faulty(SIX + "&", 1, 66);
        faulty("age>1&age>2&age>3&agex>4=mend;", 1, 18);
        faulty("age>1&age>2&age>3&mend;", 1, 18);
        faulty("age>1&age>2&age>3&1234=mend;", 1, 18);
        faulty("age>1&age>2&age>3&&age>4=mend;", 1, 18);
        faulty("age>1&age>2&age>3&", 1, 18);
        faulty("age>1&age>2&age>3&  ", 1, 20);
    }

    private static void readAgain() {
        Sentence.quote("THE TEXT (it is empty then, with a FAULT, too) becomes THE RULE: how many clauses;"
            + " -10 less the number of its FAULT (THE RULE is as it was).");
        StoneKeep x = ruled("age>1=mend;age>5=change;");
        Due.is("clauses", x.count(5), 2);
        String[] wrong = {"?", "age>1=leave;?", "age>1234=leave;", SIX + CLAUSE, "age>1&age>1&age>1&age>1=leave;"};
        int[] faults = {-11, -11, -12, -13, -14};
        for (int i = 0; i < wrong.length; i++) {
            Calls.feed(x, wrong[i]);
            Due.is("read of " + wrong[i], x.read(), faults[i]);
            Due.is("the text is empty", x.count(6), 0);
            Due.is("the rule is as it was", x.count(5), 2);
            Due.is("and says what it said", x.judged(0, 12), 1);
        }
        Due.is("nothing is left of the wrong ones", x.read(), 0);
        Due.is("now it is empty", x.judged(0, 400), 0);
    }

    private static void faultOfTheLatest() {
        Sentence.quote("The byte of the FAULT of the latest read(); NONE.");
        StoneKeep x = new StoneKeep();
        Due.is("ahead of all", x.fault(), NONE);
        Calls.feed(x, "age");
        Due.is("only fed", x.fault(), NONE);
        Due.is("read", x.read(), -11);
        Due.is("at the end", x.fault(), 3);
        Due.is("asked again", x.fault(), 3);
        Calls.feed(x, CLAUSE);
        Due.is("only fed again", x.fault(), 3);
        Due.is("read", x.read(), 1);
        Due.is("none", x.fault(), NONE);
        Calls.feed(x, "?");
        Due.is("read", x.read(), -11);
        Due.is("at 0", x.fault(), 0);
        Due.is("read of nothing", x.read(), 0);
        Due.is("none again", x.fault(), NONE);
    }

    private static void without() {
        Sentence.quote("state (STATE, cut; tests of a BLOCK without are not met)");
        StoneKeep x = ruled("state<999=mend;state>0=change;");
        Due.is("no look", x.judged(0, 400), 0);
        x.look(0, 0, 50, 0);
        Due.is("only later", x.judged(0, 49), 0);
        Due.is("state 0", x.judged(0, 50), 1);
        int[][] grades = {{0, 1, 0}, {1, 0, 0}, {1, 1, 1}, {1, 2, 1}, {98, 99, 98}, {99, 99, 99}};
        for (int[] g : grades) {
            int cut = g[2];
            StoneKeep y = ruled("state<" + cut + "=leave;state<" + (cut + 1) + "=change;state>" + cut + "=mend;");
            // one HAND has no HABIT
            y.look(0, 0, 50, g[0]);
            y.look(0, 0, 50, g[1]);
            Due.is("the mean of " + g[0] + " and " + g[1] + ", cut", y.judged(0, 50), 2);
        }
        int[] values = {-2, -1, 0, 1, 2};
        for (int v : values) {
            StoneKeep y = ruled("state<0=mend;state<1=change;");
            y.block(0, 0, 1);
            y.look(0, 0, 50, 10);
            y.look(1, 0, 60, 50);
            y.look(1, 1, 60, 30 - v);
            // 10 less half of 20 + v: cut towards 0
            Due.is("10 less half of " + (20 + v), y.judged(0, 50), v > 1 ? 1 : v > -2 ? 2 : 0);
        }
    }

    private static void firstOfAllMet() {
        Sentence.quote("The first clause whose tests are all met says 0 leave, 1 mend, 2 change; without one 0.");
        StoneKeep x = new StoneKeep();
        x.block(0, 0, 1);
        Due.is("without a rule", x.judged(0, 400), 0);
        Calls.feed(x, "age>9&age<11=leave;age>8&age<12=change;age>7&wet<1&age<13=mend;");
        x.read();
        int[] due = {0, 1, 2, 0, 2, 1, 0};
        for (int i = 0; i < due.length; i++) {
            Due.is("at " + (7 + i), x.judged(0, 7 + i), due[i]);
        }
        StoneKeep y = ruled("age<1=change;age>0=mend;");
        Due.is("when it was laid", y.judged(0, 10), 2);
        Due.is("a year on", y.judged(0, 11), 1);
        Due.is("the year before it was laid", y.judged(0, 9), 2);
        Due.is("the first YEAR", y.judged(0, 0), 2);
        Due.is("the last YEAR", y.judged(0, 400), 1);
        Due.is("the greatest age", ruledAt0("age>399&age<401=change;").judged(0, 400), 2);
        Due.is("cut: 33 of 100", ruled("lost>32&lost<34=mend;").judged(0, 11), 1);
        Due.is("cut: 66 of 100", ruled("lost>65&lost<67=mend;").judged(0, 12), 1);
        Due.is("all of it", ruled("lost>99&lost<101=mend;").judged(0, 13), 1);
        placedAt(3, 3);
        placedAt(0, 0);
        placedAt(2, 1);
        StoneKeep z = ruled("harm>0=change;harm<1=mend;");
        z.mortar(0, 20, true);
        z.mortar(0, 30, false);
        int[][] harm = {{19, 1}, {20, 2}, {29, 2}, {30, 1}};
        for (int[] h : harm) {
            Due.is("harm at " + h[0], z.judged(0, h[0]), h[1]);
        }
    }

    /** Names of what has bounds of its own: met by just that, neither by one less nor by one more. */
    private static void placedAt(int wet, int side) {
        int stone = 3 - wet;
        int[] values = {wet, side, stone};
        String[] names = {"wet", "side", "stone"};
        for (int i = 0; i < names.length; i++) {
            StoneKeep x = new StoneKeep();
            x.block(stone, 0, 3);
            x.place(0, 20, side, wet, 7);
            String name = names[i];
            Calls.feed(x, name + ">" + values[i] + "=mend;" + name + "<" + values[i] + "=mend;"
                + name + "<" + (values[i] + 1) + "=change;");
            Due.is("read", x.read(), 3);
            Due.is(name + " of " + values[i], x.judged(0, 20), 2);
            Due.is(name + " of " + values[i] + " a year before", x.judged(0, 19), i == 2 || values[i] == 0 ? 2 : 1);
        }
    }

    private static void actsOfNone() {
        Sentence.quote("Of all BLOCKS at a YEAR: how many THE RULE says an act (0 .. 2) of.");
        StoneKeep x = new StoneKeep();
        for (int act = 0; act <= 2; act++) {
            Due.is("of no blocks", x.acts(400, act), 0);
        }
        x.block(0, 0, 1);
        x.block(0, 10, 1);
        Due.is("without a rule", x.acts(0, 0), 2);
        Calls.feed(x, "age>19=change;age>9=mend;");
        x.read();
        int[][] due = {{0, 2, 0, 0}, {9, 2, 0, 0}, {10, 1, 1, 0}, {19, 1, 1, 0}, {20, 0, 1, 1}, {29, 0, 1, 1},
            {30, 0, 0, 2}, {400, 0, 0, 2}};
        for (int[] d : due) {
            for (int act = 0; act <= 2; act++) {
                Due.is("act " + act + " at " + d[0], x.acts(d[0], act), d[1 + act]);
            }
            Due.is("act 3 at " + d[0], x.acts(d[0], 3), OUTSIDE);
            Due.is("act -1 at " + d[0], x.acts(d[0], -1), OUTSIDE);
        }
        Due.is("at 401", x.acts(401, 0), OUTSIDE);
        Due.is("at -1", x.acts(-1, 0), OUTSIDE);
    }
}

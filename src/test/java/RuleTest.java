/** Promises 13 to 17: feed, read, fault, judged, acts. */
public final class RuleTest {
    private static final int UNKNOWN = StoneKeep.UNKNOWN, OUTSIDE = StoneKeep.OUTSIDE, FULL = StoneKeep.FULL;
    private static final int NONE = StoneKeep.NONE;
    private static final String CLAUSE = "age>1=mend;";

    public static void main(String[] args) {
        feed();
        read();
        misplaced();
        longNumbers();
        seventhClause();
        fourthTest();
        faultLeavesAll();
        earlierText();
        fullText();
        judgedByNames();
        judgedInOrder();
        judgedByState();
        judgedRefused();
        acts();
        Due.end();
    }

    /** Puts a text behind THE TEXT. */
    static void feed(StoneKeep x, String text) {
        for (int i = 0; i < text.length(); i++) {
            x.feed(1, text.charAt(i));
        }
    }

    /** What a new object answers to a text, and where: read() * 1000 + fault(). */
    private static int readOf(String text) {
        StoneKeep x = new StoneKeep();
        feed(x, text);
        return x.read() * 1000 + x.fault();
    }

    private static void sound(String text, int clauses) {
        Due.is("read of '" + text + "'", readOf(text), clauses * 1000 + NONE);
    }

    private static void faulty(String text, int fault, int where) {
        Due.is("read of '" + text + "'", readOf(text), (-10 - fault) * 1000 + where);
    }

    private static void feed() {
        StoneKeep x = new StoneKeep();
        Due.is("feed 0", x.feed(0, 0), OUTSIDE);
        Due.is("feed -1", x.feed(-1, 0), OUTSIDE);
        Due.is("feed 9", x.feed(9, 0), OUTSIDE);
        Due.is("feed: none came", x.count(6), 0);
        Due.is("feed 8", x.feed(8, 0x6c6f73743e303d6dL), 8);
        Due.is("feed 3, the lowest alone", x.feed(3, 0x7a7a7a7a7a656e64L), 11);
        Due.is("feed 1", x.feed(1, ';'), 12);
        Due.is("feed: read", x.read(), 1);
        Due.is("feed: the text is empty then", x.count(6), 0);
        for (int i = 1; i <= 15; i++) {
            Due.is("feed " + i, x.feed(8, 0x2020202020202020L), 8 * i);
        }
        Due.is("feed: beyond 120", x.feed(1, 32), FULL);
        Due.is("feed: beyond, wrong", x.feed(9, 32), OUTSIDE);
        Due.is("feed: 120", x.count(6), 120);
        Due.is("feed: blanks alone", x.read(), 0);
        for (int i = 1; i <= 14; i++) {
            x.feed(8, 0x2020202020202020L);
        }
        Due.is("feed: 119", x.feed(7, 0x20202020202020L), 119);
        Due.is("feed: over the end", x.feed(2, 0), FULL);
        Due.is("feed: what is refused changes nothing", x.count(6), 119);
        Due.is("feed: the last one", x.feed(1, -1), 120);
        Due.is("feed: byte 255", x.read(), -11);
        Due.is("feed: byte 255, where", x.fault(), 119);
    }

    private static void read() {
        sound("", 0);
        sound("     ", 0);
        sound("lost>0=mend;", 1);
        sound("state<999&harm<001=leave;side>2&wet>3&stone<0=change;", 2);
        sound("  age  >  12  &  wet  <  3  =  change  ;  ", 1);
        sound(CLAUSE + CLAUSE + CLAUSE + CLAUSE + CLAUSE + CLAUSE, 6);
        sound(CLAUSE + CLAUSE + CLAUSE + CLAUSE + CLAUSE + CLAUSE + "  ", 6);
        StoneKeep x = new StoneKeep();
        Due.is("fault ahead of all", x.fault(), NONE);
        feed(x, CLAUSE);
        x.read();
        Due.is("an empty text", x.read(), 0);
        Due.is("an empty rule", x.count(5), 0);
    }

    private static void misplaced() {
        faulty("x", 1, 0);
        faulty("  los>1=mend;", 1, 2);
        faulty("losta>1=mend;", 1, 0);
        faulty("lostz>1=mend;", 1, 0);
        faulty("lost`>1=mend;", 1, 4);
        faulty("lost{>1=mend;", 1, 4);
        faulty("lost>/=mend;", 1, 5);
        faulty("lost>:=mend;", 1, 5);
        faulty("host>1=mend;", 1, 0);
        faulty("lost>1=send;", 1, 7);
        faulty("lo st>1=mend;", 1, 0);
        faulty("Lost>1=mend;", 1, 0);
        faulty("losT>1=mend;", 1, 0);
        faulty("zone>1=mend;", 1, 0);
        faulty("mend>1=mend;", 1, 0);
        faulty(">1=mend;", 1, 0);
        faulty("5>lost=mend;", 1, 0);
        faulty("5000>lost=mend;", 1, 0);
        faulty("lost=1=mend;", 1, 4);
        faulty("lost5>1=mend;", 1, 4);
        faulty("lost>>1=mend;", 1, 5);
        faulty("lost>-1=mend;", 1, 5);
        faulty("lost>wet=mend;", 1, 5);
        faulty("lost>1 2=mend;", 1, 7);
        faulty("lost>1mend;", 1, 6);
        faulty("lost>1;", 1, 6);
        faulty("lost>1==mend;", 1, 7);
        faulty("lost>1=lost;", 1, 7);
        faulty("lost>1= mended;", 1, 8);
        faulty("lost>1=1;", 1, 7);
        faulty("lost>1=mend&", 1, 11);
        faulty("lost>1=mend lost", 1, 12);
        faulty("lost>1=mend;;", 1, 12);
        faulty("lost>1=mend;&wet<1=mend;", 1, 12);
        faulty("lost>1&=mend;", 1, 7);
        faulty("lost>1&&wet<1=mend;", 1, 7);
        faulty("lost\t>1=mend;", 1, 4);
        faulty("lost>1=mend;\n", 1, 12);
        faulty("lost>1=mend;\0", 1, 12);
        faulty("lost>1=mend;" + (char) 160, 1, 12);
        faulty("lost", 1, 4);
        faulty("lost>", 1, 5);
        faulty("lost>1", 1, 6);
        faulty("lost>1&", 1, 7);
        faulty("lost>1=", 1, 7);
        faulty("lost>1=mend", 1, 11);
        faulty("lost>1=mend   ", 1, 14);
        faulty("lost>1=men", 1, 7);
        faulty("lost>1=mend; wet", 1, 16);
    }

    private static void longNumbers() {
        faulty("lost>1000=mend;", 2, 5);
        faulty("lost> 0000=mend;", 2, 6);
        faulty("lost>99999999999999999999999999999999999999999999x", 2, 5);
        faulty("wet<1&lost>1234", 2, 11);
        faulty("lost>1=1000;", 1, 7);
        faulty("1000", 1, 0);
        faulty("lost>1 1000=mend;", 1, 7);
        sound("lost>999=mend;", 1);
    }

    private static void seventhClause() {
        String six = CLAUSE + CLAUSE + CLAUSE + CLAUSE + CLAUSE + CLAUSE;
        faulty(six + CLAUSE, 3, 66);
        faulty(six + "  " + CLAUSE, 3, 68);
        faulty(six + "age", 3, 66);
        faulty(six + "age>1000=mend;", 3, 66);
        faulty(six + "mend", 1, 66);
        faulty(six + ";", 1, 66);
        faulty(six + " 1000", 1, 67);
    }

    private static void fourthTest() {
        sound("age>1&age>2&age>3=mend;age>1&age>2&age>3=mend;", 2);
        faulty("age>1&age>2&age>3&age>4=mend;", 4, 18);
        faulty("age>1&age>2&age>3 & wet", 4, 20);
        faulty("age>1&age>2&age>3&mend", 1, 18);
        faulty("age>1&age>2&age>3&", 1, 18);
        faulty("age>1&age>2&age>3& =mend;", 1, 19);
        faulty(CLAUSE + "age>1&age>2&age>3&age>4444=mend;", 4, 29);
    }

    private static void faultLeavesAll() {
        StoneKeep x = new StoneKeep();
        x.block(0, 0, 100);
        feed(x, "age>4=change;" + CLAUSE);
        Due.is("two clauses", x.read(), 2);
        feed(x, "age>9=leave; age>9=leave; age>9=leave; ?");
        Due.is("a fault", x.read(), -11);
        Due.is("a fault: where", x.fault(), 39);
        Due.is("a fault: the text is empty then", x.count(6), 0);
        Due.is("a fault: clauses", x.count(5), 2);
        Due.is("a fault: the first clause", x.judged(0, 10), 2);
        Due.is("a fault: the second clause", x.judged(0, 4), 1);
        Due.is("the next read", x.read(), 0);
        Due.is("the next read has no fault", x.fault(), NONE);
        Due.is("the next rule", x.judged(0, 10), 0);
    }

    /** What an earlier, longer text has left tells nothing of a shorter one. */
    private static void earlierText() {
        String[] shorter = {"los", "lost", "lost>", "lost>1", "lost>12=", "lost>12=men", "lost>12=mend"};
        int[] where = {0, 4, 5, 6, 8, 8, 12};
        for (int i = 0; i < shorter.length; i++) {
            StoneKeep x = new StoneKeep();
            feed(x, "lost>12=mend;lost>12=mend;");
            Due.is("the longer text", x.read(), 2);
            feed(x, shorter[i]);
            Due.is("the shorter text " + shorter[i], x.read(), -11);
            Due.is("the shorter text " + shorter[i] + ": where", x.fault(), where[i]);
        }
        StoneKeep y = new StoneKeep();
        y.block(0, 0, 100);
        feed(y, "age>1&age>2&age>900=mend;age>0=mend;");
        y.read();
        feed(y, "age>5=change;");
        y.read();
        feed(y, "age>1=change;");
        Due.is("one clause of one test", y.read(), 1);
        Due.is("the earlier tests are gone", y.judged(0, 2), 2);
        Due.is("the earlier clauses are gone", y.judged(0, 1), 0);
    }

    /** Texts of 120 bytes that end within a word, a NUMBER or a clause. */
    private static void fullText() {
        String[] ends = {"lost", "lost<", "lost<1", "lost<1&", "lost<1=", "lost<1=mend", "los"};
        for (String end : ends) {
            boolean word = end.equals("los");
            faulty(" ".repeat(120 - end.length()) + end, 1, word ? 117 : 120);
        }
        faulty(" ".repeat(116) + "1234", 1, 116);
        faulty(" ".repeat(111) + "lost<1234", 2, 116);
        sound(" ".repeat(108) + "lost<1=mend;".substring(0, 12), 1);
    }

    /** Each name and the least and greatest number by which it is met, on one block. */
    private static void judgedByNames() {
        String[] names = {"lost", "wet", "side", "stone", "age", "harm", "state"};
        // the state: 101 less (19/4 - 19/4 - 19/4), by three: 35 1/4
        int[] values = {56, 2, 1, 3, 17, 1, 35};
        for (int i = 0; i < names.length; i++) {
            StoneKeep x = new StoneKeep();
            x.block(3, 3, 30);
            x.place(0, 4, 1, 2, 5);
            x.rate(3, 1, 2, 0);
            x.rate(3, 0, 0, 17);
            x.mortar(0, 4, true);
            x.look(0, 0, 19, 40);
            x.look(0, 1, 19, 30);
            x.look(0, 1, 19, 31);
            Due.is("lost of it", x.told(0, 20, 7), 17);
            feed(x, names[i] + ">" + (values[i] - 1) + "&" + names[i] + "<" + (values[i] + 1) + "=change;");
            x.read();
            Due.is("judged by " + names[i], x.judged(0, 20), 2);
            feed(x, names[i] + ">" + values[i] + "=change;" + names[i] + "<" + values[i] + "=mend;");
            x.read();
            Due.is("judged by neither of " + names[i], x.judged(0, 20), 0);
            feed(x, names[i] + ">" + (values[i] - 1) + "=mend;");
            x.read();
            Due.is("judged by greater " + names[i], x.judged(0, 20), 1);
        }
    }

    private static void judgedInOrder() {
        StoneKeep x = new StoneKeep();
        x.block(1, 10, 100);
        Due.is("without a rule", x.judged(0, 400), 0);
        feed(x, "age>50=change;age>20&wet>0=leave;age>20&stone>0&side<1=mend;");
        x.read();
        Due.is("none met", x.judged(0, 30), 0);
        Due.is("the third", x.judged(0, 31), 1);
        Due.is("the first of those met", x.judged(0, 61), 2);
        x.place(0, 40, 0, 1, 0);
        Due.is("the second ahead of the third", x.judged(0, 40), 0);
        x.place(0, 45, 1, 0, 0);
        Due.is("one test not met", x.judged(0, 45), 0);
        feed(x, "age>50=leave;lost<999=mend;");
        x.read();
        Due.is("a first that says leave", x.judged(0, 100), 0);
        StoneKeep y = new StoneKeep();
        y.block(0, 0, 1);
        feed(y, "lost>299&lost<301=change;");
        y.read();
        Due.is("lost of the least deep", y.judged(0, 3), 2);
        Due.is("lost of it a year on", y.judged(0, 4), 0);
    }

    private static void judgedByState() {
        StoneKeep x = new StoneKeep();
        x.block(0, 0, 100);
        x.block(0, 0, 100);
        feed(x, "state<999=mend;age<999=change;");
        x.read();
        Due.is("without a state", x.judged(0, 5), 2);
        x.look(0, 0, 5, 0);
        Due.is("with a state", x.judged(0, 5), 1);
        Due.is("the year before", x.judged(0, 4), 2);
        // habits of 1/2 and -1/2: a state of -1/2 is cut to 0
        x.look(1, 0, 5, 10);
        x.look(1, 1, 5, 9);
        feed(x, "state<0=mend;state<1=change;");
        x.read();
        Due.is("state -1/2", x.state(0, 5, NONE, 0) * 10 + x.state(0, 5, NONE, 1), -8);
        Due.is("state -1/2 cut", x.judged(0, 5), 2);
        x.look(1, 1, 6, 10);
        x.look(1, 0, 6, 20);
        Due.is("state below -1", x.judged(0, 5), 1);
    }

    private static void judgedRefused() {
        StoneKeep x = new StoneKeep();
        Due.is("judged: no block", x.judged(0, 401), UNKNOWN);
        x.block(0, 0, 1);
        Due.is("judged(-1)", x.judged(-1, 0), UNKNOWN);
        Due.is("judged: year -1", x.judged(0, -1), OUTSIDE);
        Due.is("judged: year 401", x.judged(0, 401), OUTSIDE);
        Due.is("judged: year 400", x.judged(0, 400), 0);
    }

    private static void acts() {
        StoneKeep x = new StoneKeep();
        for (int b = 0; b < 30; b++) {
            x.block(b % 4, b, 2000);
        }
        Due.is("acts without a rule", x.acts(0, 0), 30);
        feed(x, "age>20=change;age>10=mend;");
        x.read();
        Due.is("acts 0", x.acts(30, 0), 10);
        Due.is("acts 1", x.acts(30, 1), 10);
        Due.is("acts 2", x.acts(30, 2), 10);
        Due.is("acts in the last year", x.acts(400, 2), 30);
        Due.is("acts: year -1", x.acts(-1, 0), OUTSIDE);
        Due.is("acts: year 401", x.acts(401, 0), OUTSIDE);
        Due.is("acts: act -1", x.acts(0, -1), OUTSIDE);
        Due.is("acts: act 3", x.acts(0, 3), OUTSIDE);
    }
}

/** The sentences of part 1 that name an edge: years, spots, placings, rates, mortars, lost, danger, worst. */
public final class EdgesOfBlocksTest {
    private static final int OUTSIDE = StoneKeep.OUTSIDE, NONE = StoneKeep.NONE;
    private static final int SIDE = 3, WET = 4, ZONE = 5, HARM = 6, LOST = 7, DANGER = 8;

    public static void main(String[] args) {
        newObject();
        firstAndLastYear();
        toldBack();
        allSpots();
        fromAYearOn();
        latestYearNotAbove();
        ofLikeOnesTheLast();
        aheadOfAll();
        rates();
        rateWhatItWas();
        ratesOfAllKinds();
        timesTwo();
        aRightOneEndsThat();
        mortarsRuleLikePlacings();
        lostFromLaidToTheYearBefore();
        lostOfNone();
        dangerAtJustThat();
        dangerUpTo400();
        limitWhatItWas();
        dangerOfExtremes();
        worstByIndex();
        worstOfLikeOnes();
        Due.end();
    }

    private static StoneKeep with(int stone, int year, int deep) {
        StoneKeep x = new StoneKeep();
        x.block(stone, year, deep);
        return x;
    }

    private static void newObject() {
        Sentence.quote("No BLOCKS, LOOKS, LOTS; no RULE; all as at first.");
        StoneKeep x = new StoneKeep();
        StoneKeep other = new StoneKeep();
        other.block(1, 2, 3);
        other.rate(0, 0, 0, 9);
        other.limit(9);
        other.lot(0, 0, 0, 0, 9);
        other.feed(1, 'x');
        other.read();
        other.feed(1, 'x');
        for (int what = 0; what <= 8; what++) {
            Due.is("another object leaves it: count " + what, x.count(what), 0);
        }
        Due.is("another object leaves it: fault", x.fault(), NONE);
        Due.is("another object leaves it: limit", x.limit(1), 50);
        Due.is("another object leaves it: rate", x.rate(0, 0, 0, 0), 1);
        Due.is("a new one: read", x.read(), 0);
        Due.is("a new one: the first number", x.block(0, 0, 1), 0);
    }

    private static void firstAndLastYear() {
        Sentence.quote("YEARS are 0 to 400.");
        StoneKeep x = with(0, 0, 2000);
        x.block(0, 400, 2000);
        x.rate(0, 1, 0, 0);
        x.place(0, 400, 1, 0, 5);
        x.place(1, 0, 1, 0, 6);
        x.mortar(0, 400, true);
        x.mortar(1, 0, true);
        Due.is("a placing in 400: at 399", x.told(0, 399, ZONE), 0);
        Due.is("a placing in 400: at 400", x.told(0, 400, ZONE), 5);
        Due.is("a placing in 0: at 0", x.told(1, 0, ZONE), 6);
        Due.is("a placing in 0: at 400", x.told(1, 400, ZONE), 6);
        Due.is("a mortar in 400: at 399", x.told(0, 399, HARM), 0);
        Due.is("a mortar in 400: at 400", x.told(0, 400, HARM), 1);
        Due.is("a mortar in 0: at 0", x.told(1, 0, HARM), 1);
        Due.is("400 years, none of them the last", x.told(0, 400, LOST), 400);
        Due.is("laid in 400", x.told(1, 400, LOST), 0);
    }

    private static void toldBack() {
        Sentence.quote("of a STONE (0 .. 3), laid in a YEAR, DEEP (1 .. 2000, in tenths)");
        int[][] blocks = {{0, 0, 1}, {3, 400, 2000}, {1, 1, 2}, {2, 399, 1999}};
        StoneKeep x = new StoneKeep();
        for (int b = 0; b < blocks.length; b++) {
            Due.is("its number", x.block(blocks[b][0], blocks[b][1], blocks[b][2]), b);
        }
        for (int b = 0; b < blocks.length; b++) {
            for (int what = 0; what < 3; what++) {
                Due.is("told " + what + " at 0", x.told(b, 0, what), blocks[b][what]);
                Due.is("told " + what + " at 400", x.told(b, 400, what), blocks[b][what]);
            }
        }
    }

    private static void allSpots() {
        Sentence.quote("At any YEAR a BLOCK has a SIDE (0 .. 3), a WET (0 .. 3) and a ZONE (0 .. 7)");
        for (int spot = 0; spot < 128; spot++) {
            StoneKeep x = with(0, 0, 1);
            x.place(0, 7, spot / 32, spot / 8 % 4, spot % 8);
            Due.is("side of " + spot, x.told(0, 7, SIDE), spot / 32);
            Due.is("wet of " + spot, x.told(0, 7, WET), spot / 8 % 4);
            Due.is("zone of " + spot, x.told(0, 7, ZONE), spot % 8);
        }
    }

    private static void fromAYearOn() {
        Sentence.quote("PLACINGS (60 in all), each from a YEAR on");
        for (int year : new int[] {1, 200, 400}) {
            StoneKeep x = with(0, 0, 1);
            x.place(0, year, 3, 2, 7);
            Due.is("the year before: side", x.told(0, year - 1, SIDE), 0);
            Due.is("the year before: wet", x.told(0, year - 1, WET), 0);
            Due.is("the year before: zone", x.told(0, year - 1, ZONE), 0);
            Due.is("that year: side", x.told(0, year, SIDE), 3);
            Due.is("that year: wet", x.told(0, year, WET), 2);
            Due.is("that year: zone", x.told(0, year, ZONE), 7);
            Due.is("to the end", x.told(0, 400, ZONE), 7);
        }
    }

    private static void latestYearNotAbove() {
        Sentence.quote("of one BLOCK the one with the latest YEAR not above");
        StoneKeep x = with(0, 0, 1);
        x.block(0, 0, 1);
        x.place(0, 30, 0, 0, 3);
        x.place(0, 10, 0, 0, 1);
        x.place(0, 20, 0, 0, 2);
        x.place(1, 25, 0, 0, 7);
        int[][] due = {{9, 0}, {10, 1}, {19, 1}, {20, 2}, {25, 2}, {29, 2}, {30, 3}, {400, 3}};
        for (int[] d : due) {
            Due.is("zone at " + d[0], x.told(0, d[0], ZONE), d[1]);
        }
        Due.is("the other at 24", x.told(1, 24, ZONE), 0);
        Due.is("the other at 25", x.told(1, 25, ZONE), 7);
    }

    private static void ofLikeOnesTheLast() {
        Sentence.quote("of like ones the last told");
        StoneKeep x = with(0, 0, 1);
        x.place(0, 10, 1, 1, 1);
        x.place(0, 10, 2, 2, 2);
        x.place(0, 9, 3, 3, 3);
        Due.is("at 10", x.told(0, 10, ZONE), 2);
        x.place(0, 10, 0, 0, 0);
        Due.is("at 10, now without all", x.told(0, 10, ZONE), 0);
        Due.is("at 9", x.told(0, 9, ZONE), 3);
        x.place(0, 11, 1, 1, 1);
        x.place(0, 10, 2, 2, 6);
        Due.is("at 10 again", x.told(0, 10, ZONE), 6);
        Due.is("at 11", x.told(0, 11, ZONE), 1);
        x.place(0, 0, 1, 1, 4);
        x.place(0, 0, 1, 1, 5);
        Due.is("at 0", x.told(0, 0, ZONE), 5);
    }

    private static void aheadOfAll() {
        Sentence.quote("ahead of all (and without): 0 each.");
        StoneKeep x = with(0, 0, 1);
        x.block(0, 0, 1);
        x.place(0, 1, 1, 1, 1);
        for (int what = SIDE; what <= ZONE; what++) {
            Due.is("ahead of all", x.told(0, 0, what), 0);
            Due.is("from then on", x.told(0, 1, what), 1);
            Due.is("without, at 0", x.told(1, 0, what), 0);
            Due.is("without, at 400", x.told(1, 400, what), 0);
        }
        x.place(0, 0, 2, 2, 2);
        Due.is("nothing is ahead of 0", x.told(0, 0, ZONE), 2);
    }

    private static void rates() {
        Sentence.quote("RATE of a STONE, a SIDE and a WET (0 .. 50; 1 at first): tenths that are lost in a YEAR.");
        StoneKeep x = with(0, 0, 2000);
        Due.is("at first", x.told(0, 10, LOST), 10);
        Due.is("0", x.rate(0, 0, 0, 0), 1);
        Due.is("by 0", x.told(0, 10, LOST), 0);
        Due.is("50", x.rate(0, 0, 0, 50), 0);
        Due.is("by 50", x.told(0, 10, LOST), 500);
        Due.is("51", x.rate(0, 0, 0, 51), OUTSIDE);
        Due.is("by 50 still", x.told(0, 10, LOST), 500);
        Due.is("-1", x.rate(0, 0, 0, -1), OUTSIDE);
        Due.is("what it was", x.rate(0, 0, 0, 50), 50);
    }

    /** Each of the 64 has its own. */
    private static void rateWhatItWas() {
        Sentence.quote("RATE becomes v: what it was.");
        for (int one = 0; one < 64; one++) {
            StoneKeep x = new StoneKeep();
            Due.is("at first", x.rate(one / 16, one / 4 % 4, one % 4, 50), 1);
            for (int other = 0; other < 64; other++) {
                int was = x.rate(other / 16, other / 4 % 4, other % 4, 7);
                Due.is("rate " + other + " when " + one + " became 50", was, other == one ? 50 : 1);
            }
        }
    }

    private static void ratesOfAllKinds() {
        Sentence.quote("each by what rules in it");
        for (int one = 0; one < 64; one++) {
            StoneKeep x = with(one / 16, 5, 2000);
            x.place(0, 5, one / 4 % 4, one % 4, 7 - one % 8);
            x.rate(one / 16, one / 4 % 4, one % 4, 23);
            Due.is("by rate " + one, x.told(0, 7, LOST), 46);
        }
    }

    private static void timesTwo() {
        Sentence.quote("a BLOCK may get a wrong one in a YEAR: from then on its RATES are times 2");
        StoneKeep x = with(0, 0, 2000);
        x.block(0, 0, 2000);
        x.rate(0, 0, 0, 50);
        x.mortar(0, 10, true);
        Due.is("the year itself", x.told(0, 10, LOST), 500);
        Due.is("a year on", x.told(0, 11, LOST), 600);
        x.mortar(0, 12, true);
        Due.is("a second is not times 4", x.told(0, 14, LOST), 900);
        Due.is("the most that can be lost", mostLost(), 40000);
        Due.is("another block has no wrong one", x.told(1, 14, LOST), 700);
        x.rate(0, 0, 0, 0);
        Due.is("two times 0", x.told(0, 400, LOST), 0);
    }

    private static int mostLost() {
        StoneKeep x = with(0, 0, 1);
        x.rate(0, 0, 0, 50);
        x.mortar(0, 0, true);
        return x.told(0, 400, LOST);
    }

    private static void aRightOneEndsThat() {
        Sentence.quote("a right one ends that");
        StoneKeep x = with(0, 0, 2000);
        x.mortar(0, 5, false);
        Due.is("a right one without a wrong one", x.told(0, 10, LOST), 10);
        Due.is("it is no harm", x.told(0, 5, HARM), 0);
        x.mortar(0, 10, true);
        x.mortar(0, 12, false);
        Due.is("11 is the last year", x.told(0, 12, LOST), 14);
        Due.is("12 is as ever", x.told(0, 13, LOST), 15);
        Due.is("harm at 11", x.told(0, 11, HARM), 1);
        Due.is("harm at 12", x.told(0, 12, HARM), 0);
        x.mortar(0, 400, true);
        Due.is("harm at 400", x.told(0, 400, HARM), 1);
        Due.is("400 itself is not counted", x.told(0, 400, LOST), 402);
    }

    private static void mortarsRuleLikePlacings() {
        Sentence.quote("MORTARS: 60 in all, ruling like PLACINGS");
        StoneKeep x = with(0, 0, 2000);
        x.mortar(0, 30, false);
        x.mortar(0, 20, true);
        x.mortar(0, 25, true);
        int[][] due = {{0, 0}, {19, 0}, {20, 1}, {25, 1}, {29, 1}, {30, 0}, {400, 0}};
        for (int[] d : due) {
            Due.is("harm at " + d[0], x.told(0, d[0], HARM), d[1]);
        }
        x.mortar(0, 25, false);
        Due.is("of like ones the last told", x.told(0, 25, HARM), 0);
        Due.is("ahead of it", x.told(0, 24, HARM), 1);
        x.mortar(0, 25, true);
        Due.is("of like ones the last told again", x.told(0, 25, HARM), 1);
    }

    private static void lostFromLaidToTheYearBefore() {
        Sentence.quote("LOST at a YEAR y: the sum over YEARS from that in which it was laid to y less 1");
        StoneKeep x = with(0, 100, 2000);
        x.rate(0, 1, 0, 3);
        x.rate(0, 2, 0, 7);
        x.rate(0, 3, 0, 20);
        // 20 a year ahead of the laying, 3 in the year of it, 7 in the next, 20 from then on
        x.place(0, 0, 3, 0, 0);
        x.place(0, 100, 1, 0, 0);
        x.place(0, 101, 2, 0, 0);
        x.place(0, 102, 3, 0, 0);
        int[][] due = {{0, 0}, {99, 0}, {100, 0}, {101, 3}, {102, 10}, {103, 30}};
        for (int[] d : due) {
            Due.is("lost at " + d[0], x.told(0, d[0], LOST), d[1]);
        }
        StoneKeep y = with(0, 0, 2000);
        Due.is("laid in 0: at 0", y.told(0, 0, LOST), 0);
        Due.is("laid in 0: at 1", y.told(0, 1, LOST), 1);
        Due.is("laid in 0: at 400", y.told(0, 400, LOST), 400);
    }

    private static void lostOfNone() {
        Sentence.quote("(0 if there is none)");
        StoneKeep x = with(0, 400, 1);
        x.rate(0, 0, 0, 50);
        x.mortar(0, 0, true);
        for (int year : new int[] {0, 1, 399, 400}) {
            Due.is("laid in 400: at " + year, x.told(0, year, LOST), 0);
        }
        x.block(0, 399, 1);
        Due.is("laid in 399: at 399", x.told(1, 399, LOST), 0);
        Due.is("laid in 399: at 400", x.told(1, 400, LOST), 50);
    }

    private static void dangerAtJustThat() {
        Sentence.quote("DANGER: the first YEAR at which LOST times 100 is DEEP times LIMIT or more");
        // lost 7 a year: at 100 * 50 / 100 = 50 it is 8 years on
        StoneKeep x = with(0, 3, 100);
        x.rate(0, 0, 0, 7);
        Due.is("56 after 8 years", x.told(0, 0, DANGER), 11);
        Due.is("limit 56", x.limit(56), 50);
        Due.is("just that", x.told(0, 0, DANGER), 11);
        Due.is("limit 57", x.limit(57), 56);
        Due.is("one above", x.told(0, 0, DANGER), 12);
        Due.is("limit 7", x.limit(7), 57);
        Due.is("just the first year's", x.told(0, 0, DANGER), 4);
        Due.is("limit 8", x.limit(8), 7);
        Due.is("one above the first year's", x.told(0, 0, DANGER), 5);
        for (int year : new int[] {0, 3, 5, 400}) {
            Due.is("whichever year is asked", x.told(0, year, DANGER), 5);
        }
        // 101 * 50 is 5050: 50 are not enough, 51 are
        StoneKeep y = with(0, 0, 101);
        Due.is("no half is cut", y.told(0, 0, DANGER), 51);
    }

    private static void dangerUpTo400() {
        Sentence.quote("up to 400; NONE.");
        StoneKeep x = with(0, 0, 800);
        x.block(0, 0, 801);
        x.block(0, 1, 800);
        x.block(0, 1, 798);
        x.block(0, 400, 1);
        x.block(0, 399, 2);
        x.block(0, 399, 3);
        int[] due = {400, NONE, NONE, 400, NONE, 400, NONE};
        for (int b = 0; b < due.length; b++) {
            Due.is("danger of " + b, x.told(b, 0, DANGER), due[b]);
        }
        x.rate(0, 0, 0, 0);
        Due.is("nothing is lost", x.told(0, 400, DANGER), NONE);
    }

    private static void limitWhatItWas() {
        Sentence.quote("LIMIT becomes v: what it was.");
        StoneKeep x = new StoneKeep();
        int[][] calls = {{1, 50}, {0, OUTSIDE}, {100, 1}, {101, OUTSIDE}, {-1, OUTSIDE}, {50, 100},
            {Integer.MIN_VALUE, OUTSIDE}, {Integer.MAX_VALUE, OUTSIDE}, {50, 50}};
        for (int[] c : calls) {
            Due.is("limit " + c[0], x.limit(c[0]), c[1]);
        }
    }

    private static void dangerOfExtremes() {
        Sentence.quote("(LIMIT 1 .. 100; 50 at first)");
        StoneKeep x = with(0, 0, 1);
        x.block(1, 0, 2000);
        Due.is("the least deep by 50", x.told(0, 0, DANGER), 1);
        Due.is("the deepest by 50", x.told(1, 0, DANGER), NONE);
        x.limit(1);
        Due.is("the least deep by 1", x.told(0, 0, DANGER), 1);
        Due.is("the deepest by 1", x.told(1, 0, DANGER), 20);
        x.limit(100);
        Due.is("the least deep by 100", x.told(0, 0, DANGER), 1);
        x.rate(1, 0, 0, 5);
        Due.is("the deepest by 100, just in time", x.told(1, 0, DANGER), 400);
        x.rate(1, 0, 0, 4);
        Due.is("the deepest by 100, too late", x.told(1, 0, DANGER), NONE);
        x.rate(1, 0, 0, 50);
        x.mortar(1, 0, true);
        Due.is("the deepest at the greatest rate", x.told(1, 0, DANGER), 20);
        x.rate(0, 0, 0, 50);
        Due.is("no danger ahead of a loss", x.told(0, 0, DANGER), 1);
    }

    private static void worstByIndex() {
        Sentence.quote("The i-th BLOCK by DANGER (those with one, the earliest first;");
        StoneKeep x = new StoneKeep();
        Due.is("of no blocks", x.worst(0, 0), NONE);
        x.block(0, 0, 2000);
        Due.is("of none with a danger", x.worst(400, 0), NONE);
        x.block(0, 50, 100);
        x.block(0, 40, 100);
        x.block(0, 350, 101);
        int[][] due = {{Integer.MIN_VALUE, NONE}, {-1, NONE}, {0, 2}, {1, 1}, {2, NONE}, {3, NONE}, {4, NONE},
            {30, NONE}, {Integer.MAX_VALUE, NONE}};
        for (int[] d : due) {
            Due.is("worst " + d[0], x.worst(0, d[0]), d[1]);
            Due.is("worst " + d[0] + " at 400", x.worst(400, d[0]), d[1]);
            Due.is("worst " + d[0] + " at 401", x.worst(401, d[0]), OUTSIDE);
            Due.is("worst " + d[0] + " at -1", x.worst(-1, d[0]), OUTSIDE);
        }
        x.limit(1);
        Due.is("a lower limit: the one without", x.worst(0, 0), 0);
        Due.is("a lower limit: the last", x.worst(0, 3), 3);
        Due.is("a lower limit: no more", x.worst(0, 4), NONE);
    }

    private static void worstOfLikeOnes() {
        Sentence.quote("of like ones the one with the greater LOST at a YEAR, then the least number). NONE."
            + " OUTSIDE (the YEAR).");
        StoneKeep x = new StoneKeep();
        x.block(0, 0, 100);
        x.block(0, 0, 100);
        x.block(0, 0, 100);
        x.rate(0, 1, 0, 9);
        x.place(2, 50, 1, 0, 0);
        x.place(1, 51, 1, 0, 0);
        Due.is("like in all at 50", x.worst(50, 0) * 100 + x.worst(50, 1) * 10 + x.worst(50, 2), 12);
        Due.is("the third has lost more at 51", x.worst(51, 0) * 100 + x.worst(51, 1) * 10 + x.worst(51, 2), 201);
        Due.is("the second, too, at 52", x.worst(52, 0) * 100 + x.worst(52, 1) * 10 + x.worst(52, 2), 210);
        Due.is("ahead of all losses", x.worst(0, 0), 0);
    }
}

/** The edges of promises 11 to 13, each by itself: THE TAPE, TEXTS, and what they give. */
public final class TextEdgeTest extends Edges {
    /** 49 bytes, to which a Q may be put. */
    private static final String NEARLY_50 = "9+".repeat(24) + "9";

    private TextEdgeTest() {
    }

    public static void main(String[] args) throws ReflectiveOperationException {
        runAll(TextEdgeTest.class);
    }

    private static GreatCambric taped(int bytes) {
        GreatCambric x = new GreatCambric();
        feed(x, " ".repeat(bytes));
        due(bytes, x.count(7));
        return x;
    }

    private static void good(String... texts) {
        for (String t : texts) {
            GreatCambric x = new GreatCambric();
            due(t, 1, text(x, 0, t));
            due(t, 0, x.count(7));
        }
    }

    /** The TEXT ahead stays, THE TAPE is empty, and no ERROR is told. */
    private static void fault(int at, String t) {
        GreatCambric x = new GreatCambric();
        due(1, text(x, 0, "41"));
        due(t, -10 - at, text(x, 0, t));
        due(t, 0, x.count(7));
        due(t, 41, x.law(0, 0, 0, 0));
        for (int k = 1; k <= 5; k++) {
            due(t, 0, x.told(k));
        }
    }

    /** What a TEXT gives with w, s, y. */
    private static void gives(int due, String t, int w, int s, int y) {
        GreatCambric x = new GreatCambric();
        due(1, text(x, 0, t));
        due(t, due, x.law(0, w, s, y));
    }

    // ---- promise 11: feed

    static void p11TooFewOrManyBytes() {
        for (int n : new int[] {0, -1, 9, -8, LEAST, GREATEST, 256 + 1, 65536 + 1, LEAST + 1}) {
            due(BEYOND, new GreatCambric().feed(0, n));
        }
    }

    static void p11OneAndEightBytes() {
        due(1, new GreatCambric().feed(0, 1));
        due(8, new GreatCambric().feed(0, 8));
    }

    static void p11TheLowestComeFirstAndNoOthers() {
        GreatCambric x = new GreatCambric();
        due(2, x.feed(0x39393939_39393231L, 2));
        due(1, x.text(0));
        due(12, x.law(0, 0, 0, 0));
        due(8, x.feed(0x31322b30_30302b30L, 8));
        due(1, x.text(0));
        due(21, x.law(0, 0, 0, 0));
    }

    static void p11WordsBelow0() {
        GreatCambric x = new GreatCambric();
        due(8, x.feed(-1L, 8));
        due(-10, x.text(0));
        due(8, x.feed(0xb1000000_00002b31L, 8));
        due(-10 - 2, x.text(0));
        // Its highest byte is 177, which is '1' but for the highest bit.
        due(8, x.feed(0xb12b312b_312b3131L, 8));
        due(-10 - 7, x.text(0));
    }

    static void p11FiftyFit() {
        due(50, taped(49).feed(0, 1));
        due(50, taped(42).feed(0, 8));
        due(50, taped(48).feed(0, 2));
    }

    static void p11FiftyOneDoNot() {
        due(FULL, taped(50).feed(0, 1));
        due(FULL, taped(49).feed(0, 2));
        due(FULL, taped(43).feed(0, 8));
    }

    static void p11NoneComesWhereNotAllFit() {
        GreatCambric x = taped(49);
        due(FULL, x.feed(0, 2));
        due(49, x.count(7));
        due(50, x.feed(0, 1));
        due(FULL, x.feed(0, 8));
        due(50, x.count(7));
    }

    static void p11BeyondIsAskedAheadOfFull() {
        GreatCambric x = taped(50);
        due(BEYOND, x.feed(0, 9));
        due(BEYOND, x.feed(0, 0));
        due(0, x.told(4));
        due(2, x.told(1));
    }

    static void p11AFullTapeIsEmptyBehindText() {
        GreatCambric x = taped(50);
        due(-10, x.text(0));
        due(8, x.feed(0, 8));
    }

    // ---- promise 12: text

    static void p12UseTooSmallOrLarge() {
        for (int use : outside(1)) {
            GreatCambric x = new GreatCambric();
            feed(x, "5");
            due(BEYOND, x.text(use));
            due(1, x.count(7));
            due(1, x.text(0));
            due(5, x.law(0, 0, 0, 0));
        }
    }

    static void p12AnEmptyTapeEndsTooEarly() {
        due(-10, new GreatCambric().text(0));
        due(-10, new GreatCambric().text(1));
    }

    static void p12TheTapeIsEmptyBehindIt() {
        GreatCambric x = new GreatCambric();
        due(1, text(x, 0, "5"));
        due(0, x.count(7));
        due(-10, x.text(0));
        due(5, x.law(0, 0, 0, 0));
    }

    static void p12InPlaceOfOneAhead() {
        GreatCambric x = new GreatCambric();
        due(1, text(x, 0, "1+2+3+4"));
        due(1, text(x, 0, "5"));
        due(5, x.law(0, 0, 0, 0));
    }

    static void p12EachUseHasItsOwn() {
        GreatCambric x = new GreatCambric();
        due(1, text(x, 0, "5"));
        due(3, x.law(1, 0, 0, 0));
        due(1, text(x, 1, "6"));
        due(5, x.law(0, 0, 0, 0));
        due(6, x.law(1, 0, 0, 0));
    }

    static void p12NumbersOf1To4Digits() {
        good("0", "9", "10", "0000", "9999", "007");
        fault(4, "12345");
        fault(4, "00000");
        fault(6, "w+1234567");
    }

    static void p12ANumberGoesOnWithNoName() {
        fault(1, "1w");
        fault(1, "w1");
        fault(1, "ws");
        fault(1, "w(");
        fault(1, "1(");
        fault(3, "(w)w");
    }

    static void p12NamesOfTheOtherUse() {
        good("w", "s", "y");
        fault(0, "n");
        GreatCambric x = new GreatCambric();
        due(1, text(x, 1, "w+n+y"));
        due(-10, text(x, 1, "s"));
        due(-10 - 2, text(x, 1, "w+s"));
    }

    static void p12NoOtherBytes() {
        for (char other = 0; other < 256; other++) {
            if ("wsy!(0123456789".indexOf(other) < 0) {
                fault(0, "" + other);
            }
            if ("|&<=>+-*/%".indexOf(other) < 0) {
                fault(1, "w" + other);
            }
        }
    }

    static void p12NoBlanks() {
        fault(0, " w");
        fault(1, "w ");
        fault(2, "w+ s");
        fault(1, "( w)");
    }

    static void p12FiveOpenAtOnce() {
        good("!!!!!w", "(((((w)))))", "!(!(!w))", "(!(!(w)))", "!!!!!1=!!!!!2");
        fault(5, "!!!!!!w");
        fault(5, "((((((w))))))");
        fault(5, "!(!(!(w)))");
        fault(5, "!!!!!(w)");
        fault(5, "(((((!w)))))");
        fault(7, "w+!!!!!!w");
    }

    static void p12ThoseThatAreClosedAreNotOpen() {
        good("!w+!w+!w+!w+!w+!w", "(w)+(w)+(w)+(w)+(w)+(w)", "(((((w)))))+(((((w)))))", "((((!w+!s))))", "((((!w)+!s)))");
        fault(11, "((((!w+!s+!!w))))");
    }

    static void p12OneComparisonInARow() {
        good("1<2", "1=2", "1>2", "(1<2)<3", "1<(2<3)", "1<2&2<3", "1<2|2<3");
        fault(3, "1<2<3");
        fault(3, "1<2=3");
        fault(3, "1=2>3");
        fault(7, "w|s&1<2=3");
        fault(4, "(1<2>3)");
    }

    static void p12SignsAsOftenAsOneLikes() {
        good("1|2|3|4", "1&2&3&4", "1+2-3+4-5", "1*2/3%4*5", "1*2+3*4<5*6-7&8|9");
    }

    static void p12ASignWithNothingBehindItEndsTooEarly() {
        for (String sign : "|&<=>+-*/%".split("")) {
            fault(2, "w" + sign);
            fault(2, "w" + sign + sign);
            fault(0, sign + "w");
        }
        fault(1, "!");
        fault(1, "(");
        fault(2, "(w");
        fault(5, "(((((");
        fault(9, "(((((w)))");
        fault(10, "(((((w))))");
    }

    static void p12ABracketThatIsNotOpen() {
        fault(0, ")");
        fault(1, "()");
        fault(1, "w)");
        fault(3, "(w))");
        fault(1, "!)");
    }

    static void p12FiftyBytes() {
        GreatCambric x = new GreatCambric();
        due(1, text(x, 0, NEARLY_50 + "9"));
        due(99, x.law(0, 0, 0, 0));
        fault(50, NEARLY_50 + "+");
        fault(49, NEARLY_50 + "w");
        fault(49, NEARLY_50 + ")");
        fault(50, "w|" + "(w)&".repeat(12));
        good("w|" + "s*y-".repeat(11) + "1<!w");
    }

    static void p12AFaultLeavesTheTextAhead() {
        GreatCambric x = new GreatCambric();
        due(-10 - 2, text(x, 0, "5+"));
        due(8, x.law(0, 8, 0, 0));
        due(1, text(x, 0, "5"));
        due(-10 - 2, text(x, 0, "6+"));
        due(5, x.law(0, 8, 0, 0));
        due(0, x.count(7));
    }

    // ---- promise 13: law

    static void p13UseTooSmallOrLarge() {
        for (int use : outside(1)) {
            due(BEYOND, new GreatCambric().law(use, 1, 1, 1));
        }
    }

    static void p13WithoutATextItIsWOr3() {
        for (int w : new int[] {0, 1, 50, 99}) {
            due(w, new GreatCambric().law(0, w, 7, 7));
            due(3, new GreatCambric().law(1, w, 7, 7));
        }
        due(3, new GreatCambric().law(1, LEAST, GREATEST, -1));
    }

    static void p13HeldTo0And99() {
        int[] w = {0, 99, 98, 100, -1, 1000, LEAST, GREATEST};
        int[] due = {0, 99, 98, 99, 0, 99, 0, 99};
        GreatCambric x = new GreatCambric();
        due(1, text(x, 0, "w"));
        due(1, text(x, 1, "w"));
        for (int i = 0; i < w.length; i++) {
            due(due[i], x.law(0, w[i], 0, 0));
            due(due[i], x.law(1, w[i], 0, 0));
        }
    }

    static void p13NamesStandInOrder() {
        GreatCambric x = new GreatCambric();
        due(1, text(x, 0, "w*25+s*5+y"));
        due(1, text(x, 1, "w*25+n*5+y"));
        due(1 * 25 + 2 * 5 + 3, x.law(0, 1, 2, 3));
        due(2 * 25 + 3 * 5 + 1, x.law(1, 2, 3, 1));
    }

    static void p13SumsWrap() {
        gives(1, "w+1<0", GREATEST, 0, 0);
        gives(1, "w-1>0", LEAST, 0, 0);
        gives(1, "0-w=w", LEAST, 0, 0);
        gives(7, "w+s+9", GREATEST, GREATEST, 0);
    }

    static void p13ProductsWrap() {
        gives(0, "w*w", 65536, 0, 0);
        gives(1, "w*w<0", 46341, 0, 0);
        gives(1, "w*w>0", 46340, 0, 0);
        gives(1, "9999*9999*9999<0", 0, 0, 0);
        gives(5, "w*2+5", LEAST, 0, 0);
    }

    static void p13QuotientsAreCutTowards0() {
        gives(3, "w/s", 7, 2, 0);
        gives(6, "w/s+9", -7, 2, 0);
        gives(6, "w/s+9", 7, -2, 0);
        gives(3, "w/s", -7, -2, 0);
        gives(9, "w/s+9", -1, 2, 0);
    }

    static void p13RestsAreWhatACutQuotientLeaves() {
        gives(1, "w%s", 7, 2, 0);
        gives(8, "w%s+9", -7, 2, 0);
        gives(1, "w%s", 7, -2, 0);
        gives(8, "w%s+9", -7, -2, 0);
        gives(0, "w%s", 8, 2, 0);
    }

    static void p13By0Both0() {
        gives(0, "w/s", 7, 0, 0);
        gives(0, "w%s", 7, 0, 0);
        gives(0, "w/0", 0, 0, 0);
        gives(0, "w%0", -5, 0, 0);
        gives(4, "4+w/(s-s)", 7, 8, 0);
        gives(4, "4+w%(s-s)", 7, 8, 0);
    }

    static void p13TheLeastBy1Below0() {
        gives(1, "w/s=w", LEAST, -1, 0);
        gives(4, "w%s+4", LEAST, -1, 0);
        gives(1, "w/(0-1)<0", LEAST, 0, 0);
    }

    static void p13EachIsWorkedOutBehindThoseOnItsLeft() {
        gives(4, "9-3-2", 0, 0, 0);
        gives(2, "16/4/2", 0, 0, 0);
        gives(2, "17%5%3", 0, 0, 0);
        gives(8, "8/3*4", 0, 0, 0);
        gives(1, "7*3%4", 0, 0, 0);
        gives(10, "9-3+4", 0, 0, 0);
    }

    static void p13WhatBindsCloser() {
        gives(7, "1+2*3", 0, 0, 0);
        gives(9, "(1+2)*3", 0, 0, 0);
        gives(1, "1+2<4", 0, 0, 0);
        gives(2, "1+(2<4)", 0, 0, 0);
        gives(1, "0<1&1", 0, 0, 0);
        gives(0, "0<(0&1)", 0, 0, 0);
        gives(1, "1|0&0", 0, 0, 0);
        gives(0, "(1|0)&0", 0, 0, 0);
        gives(5, "!1+5", 0, 0, 0);
        gives(0, "!(1+5)", 0, 0, 0);
        gives(6, "!0*6", 0, 0, 0);
    }

    static void p13ComparedAre1Or0() {
        int[][] pairs = {{1, 2, 1, 0, 0}, {2, 2, 0, 1, 0}, {3, 2, 0, 0, 1}, {LEAST, GREATEST, 1, 0, 0}, {GREATEST, LEAST, 0, 0, 1}};
        for (int[] p : pairs) {
            gives(p[2], "w<s", p[0], p[1], 0);
            gives(p[3], "w=s", p[0], p[1], 0);
            gives(p[4], "w>s", p[0], p[1], 0);
        }
    }

    /** Seen in what adds to them, since what lies below 0 is held to 0. */
    static void p13WhatIsNotTrueIs0() {
        for (String t : new String[] {"8<7", "7<7", "7=8", "7>8", "7>7", "0&0", "0&1", "1&0", "0|0", "!1", "!!0"}) {
            gives(5, "(" + t + ")+5", 0, 0, 0);
            gives(5, "5-(" + t + ")", 0, 0, 0);
        }
        for (String t : new String[] {"7<8", "7=7", "8>7", "2&3", "2|0", "0|3", "2|3", "!0", "!!2"}) {
            gives(6, "(" + t + ")+5", 0, 0, 0);
            gives(4, "5-(" + t + ")", 0, 0, 0);
        }
    }

    static void p13WhatIsNot0IsTrue() {
        int[] values = {0, 1, 2, -1, 256, LEAST};
        for (int a : values) {
            gives(a == 0 ? 1 : 0, "!w", a, 0, 0);
            gives(a == 0 ? 0 : 1, "!!w", a, 0, 0);
            for (int b : values) {
                gives(a != 0 && b != 0 ? 1 : 0, "w&s", a, b, 0);
                gives(a != 0 || b != 0 ? 1 : 0, "w|s", a, b, 0);
            }
        }
    }

    static void p13AllIsWorkedOut() {
        gives(1, "1|1/0", 0, 0, 0);
        gives(0, "0&1%0", 0, 0, 0);
        gives(1, "w|s|y", 0, 0, 5);
        gives(0, "w&s&y", 5, 5, 0);
    }

    /** Of 50 bytes, each of which is to be worked out by itself. */
    static void p13AllOf50Bytes() {
        gives(29, "!0" + "+1".repeat(23) + "+5", 0, 0, 0);
        gives(19, "!0" + "+1".repeat(23) + "-5", 0, 0, 0);
        gives(1, "1" + "|0".repeat(21) + "|!!!!!0", 0, 0, 0);
        gives(0, "1" + "&1".repeat(21) + "&!!!!!1", 0, 0, 0);
    }

    static void p13ASecondLongTextTakesAllOfTheFirst() {
        GreatCambric x = new GreatCambric();
        due(1, text(x, 0, NEARLY_50));
        due(99, x.law(0, 1, 1, 1));
        due(1, text(x, 0, "w"));
        due(1, x.law(0, 1, 1, 1));
    }
}

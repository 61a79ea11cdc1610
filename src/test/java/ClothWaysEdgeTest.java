/** The edges of promises 23 to 28, each by itself: FOLDINGS, ways, PARTS, what mends, the GAME. */
public final class ClothWaysEdgeTest extends Edges {
    private static final int[] TOPS = {
        12243, 12143, 11243, 11143, 12244, 12144, 11244, 11144, 12233, 12133, 11233, 11133, 12234, 12134, 11234, 11134
    };

    private ClothWaysEdgeTest() {
    }

    public static void main(String[] args) throws ReflectiveOperationException {
        runAll(ClothWaysEdgeTest.class);
    }

    // ---- promise 23: folded

    static void p23CellTooSmallOrLarge() {
        for (int cell : outside(15)) {
            due(BEYOND, new GreatCambric().folded(1, cell, 0));
        }
    }

    static void p23WhatTooSmallOrLarge() {
        for (int what : outside(1)) {
            due(BEYOND, new GreatCambric().folded(1, 0, what));
        }
    }

    private static void noFolding(int... foldings) {
        for (int folding : foldings) {
            due(folding + "", BEYOND, new GreatCambric().folded(folding, 0, 0));
            due(folding + "", BEYOND, new GreatCambric().folded(folding, 15, 1));
        }
    }

    static void p23WithoutFolds() {
        for (int c = 0; c < 16; c++) {
            due(c, new GreatCambric().folded(1, c, 0));
            due(0, new GreatCambric().folded(1, c, 1));
        }
    }

    static void p23TheFirstDigitIs1() {
        noFolding(0, 2, 3, 9, 21, 41, 91, 211, 2134, 21134, 31, 99999, -1, -11, -11324);
    }

    static void p23OtherDigitsAre1To4() {
        noFolding(10, 15, 16, 19, 101, 110, 105, 151, 115, 1130, 1035, 11340, 11305, 10000, 10134, 15134, 11936);
    }

    static void p23FourFoldsAtMost() {
        due(0, new GreatCambric().folded(11324, 3, 0));
        noFolding(111111, 113241, 113243, 112340, 100000, 111334, 1113344, 1132411324, GREATEST, LEAST, 1000000000);
    }

    static void p23TwoOf1And2Together() {
        for (int folding : new int[] {111, 112, 121, 122}) {
            due(folding + "", 0, new GreatCambric().folded(folding, 0, 0));
            due(folding + "", 3, new GreatCambric().folded(folding, 12, 0));
        }
        noFolding(1111, 1112, 1121, 1122, 1211, 1212, 1221, 1222, 11113, 11131, 13111, 12321, 11322);
    }

    static void p23TwoOf3And4Together() {
        for (int folding : new int[] {133, 134, 143, 144}) {
            due(folding + "", 0, new GreatCambric().folded(folding, 0, 0));
            due(folding + "", 3, new GreatCambric().folded(folding, 3, 0));
        }
        noFolding(1333, 1334, 1343, 1344, 1433, 1434, 1443, 1444, 13331, 11333, 13413, 14434, 13344);
    }

    /** Where CELLS 4 to 7 (a row) and 1, 5, 9, 13 (a column) come to lie by one FOLD. */
    static void p23EachFoldByItself() {
        GreatCambric x = new GreatCambric();
        int[] greater = {1, 0, 0, 1};
        int[] lesser = {0, 1, 1, 0};
        int[] over = {1, 1, 0, 0};
        for (int i = 0; i < 4; i++) {
            due(2 + greater[i], x.folded(11, 4 + i, 0));
            due(over[i], x.folded(11, 4 + i, 1));
            due(2 + lesser[i], x.folded(12, 4 + i, 0));
            due(1 - over[i], x.folded(12, 4 + i, 1));
            due(4 * greater[i] + 1, x.folded(13, 4 * i + 1, 0));
            due(over[i], x.folded(13, 4 * i + 1, 1));
            due(4 * lesser[i] + 1, x.folded(14, 4 * i + 1, 0));
            due(1 - over[i], x.folded(14, 4 * i + 1, 1));
        }
    }

    /** From below: 3 0 1 2 by 1 and 1, 2 1 0 3 by 1 and 2, 1 2 3 0 by 2 and 1, 0 3 2 1 by 2 and 2. */
    static void p23WhatIsFoldedOverLiesTurned() {
        int[] foldings = {111, 112, 121, 122};
        int[][] layers = {{1, 2, 3, 0}, {2, 1, 0, 3}, {3, 0, 1, 2}, {0, 3, 2, 1}};
        for (int f = 0; f < 4; f++) {
            for (int i = 0; i < 4; i++) {
                due(layers[f][i], new GreatCambric().folded(foldings[f], i, 1));
                due(3, new GreatCambric().folded(foldings[f], 12 + i, 0));
            }
        }
    }

    static void p23SixteenLayersOnOnePile() {
        for (int folding : new int[] {11133, 12244, 13142, 14321, 11342}) {
            int layers = 0;
            for (int c = 0; c < 16; c++) {
                due(0, new GreatCambric().folded(folding, c, 0));
                layers |= 1 << new GreatCambric().folded(folding, c, 1);
            }
            due(0xFFFF, layers);
        }
    }

    // ---- promise 24: topFor

    static void p24CellTooSmallOrLarge() {
        for (int cell : outside(15)) {
            due(BEYOND, new GreatCambric().topFor(cell));
        }
    }

    /** As found by folding piles of paper (PlainCambric). */
    static void p24EachCell() {
        for (int c = 0; c < 16; c++) {
            due(TOPS[c], new GreatCambric().topFor(c));
            due(15, new GreatCambric().folded(TOPS[c], c, 1));
        }
    }

    // ---- promise 25: route

    static void p25CellTooSmallOrLarge() {
        for (int cell : outside(15)) {
            due(BEYOND, new GreatCambric().route(cell, 0));
            due(BEYOND, new GreatCambric().route(0, cell));
        }
    }

    static void p25FromOneToItself() {
        for (int c = 0; c < 16; c++) {
            due(0, new GreatCambric().route(c, c));
        }
        GreatCambric x = new GreatCambric();
        tear(x, 1, 4);
        due(0, x.route(0, 0));
    }

    static void p25OneStepAndTheFarthestCorner() {
        GreatCambric x = new GreatCambric();
        due(1, x.route(0, 1));
        due(1, x.route(4, 0));
        due(6, x.route(0, 15));
        due(6, x.route(12, 3));
    }

    static void p25RowsDoNotGoRoundTheEdge() {
        GreatCambric x = new GreatCambric();
        due(4, x.route(3, 4));
        due(4, x.route(8, 7));
        due(3, x.route(0, 12));
        due(3, x.route(15, 3));
    }

    static void p25OneOfThemIsTorn() {
        GreatCambric x = new GreatCambric();
        tear(x, 7);
        due(STATE, x.route(7, 0));
        due(STATE, x.route(0, 7));
        due(STATE, x.route(7, 7));
    }

    static void p25BeyondIsAskedAheadOfState() {
        GreatCambric x = new GreatCambric();
        tear(x, 0);
        due(BEYOND, x.route(0, 16));
        due(BEYOND, x.route(-1, 0));
        due(0, x.told(3));
    }

    static void p25StateIsAskedAheadOfNone() {
        GreatCambric x = new GreatCambric();
        tear(x, 1, 4, 15);
        due(STATE, x.route(0, 15));
        due(0, x.told(2));
        due(NONE, x.route(0, 14));
        due(NONE, x.route(14, 0));
        due(1, x.told(3));
    }

    static void p25TheLongestWay() {
        // 4 0 1 2 3 7 11 10 9 13 12: no way on this cloth is longer.
        GreatCambric x = new GreatCambric();
        tear(x, 5, 6, 8);
        due(10, x.route(4, 12));
        due(10, x.route(12, 4));
        tear(x, 15);
        due(10, x.route(4, 12));
        tear(x, 11);
        due(NONE, x.route(4, 12));
    }

    // ---- promise 26: parts

    static void p26NoneIsTorn() {
        due(1, new GreatCambric().parts());
        due(1, new GreatCambric().count(6));
    }

    static void p26AllAreTorn() {
        GreatCambric x = new GreatCambric();
        tear(x, 0, 1, 2, 3, 4, 5, 6, 7, 8, 9, 10, 11, 12, 13, 14, 15);
        due(0, x.parts());
        due(0, x.count(6));
    }

    static void p26OneIsLeft() {
        for (int left = 0; left < 16; left++) {
            GreatCambric x = new GreatCambric();
            for (int c = 0; c < 16; c++) {
                tear(x, c);
            }
            x.cell(left, 1, 0);
            due(1, x.parts());
        }
    }

    static void p26AsManyAsCanBe() {
        GreatCambric x = new GreatCambric();
        tear(x, 0, 2, 5, 7, 8, 10, 13, 15);
        due(8, x.parts());
        due(8, x.count(6));
    }

    static void p26RowsDoNotGoRoundTheEdge() {
        GreatCambric x = new GreatCambric();
        tear(x, 0, 1, 2, 5, 6, 7, 8, 9, 10, 11, 12, 13, 14, 15);
        due(2, x.parts());
        x.cell(0, 1, 0);
        due(2, x.parts());
        x.cell(12, 1, 0);
        due(3, x.parts());
    }

    static void p26OneLongPart() {
        GreatCambric x = new GreatCambric();
        tear(x, 4, 5, 6, 13, 14, 15);
        due(1, x.parts());
        x.cell(3, 1, 1);
        due(2, x.parts());
    }

    // ---- promise 27: mends

    static void p27NoneIsTorn() {
        due(0, new GreatCambric().mends());
    }

    static void p27NoneNeedsToBeMended() {
        GreatCambric x = new GreatCambric();
        tear(x, 5, 6, 9, 10);
        due(0, x.mends());
        tear(x, 0, 3, 12, 15);
        due(4, x.parts());
        due(1 << 0 | 1 << 3 | 1 << 9, x.mends());
    }

    static void p27TenAreAtMostTorn() {
        GreatCambric x = new GreatCambric();
        tear(x, 4, 5, 6, 7, 8, 9, 10, 11, 12, 13);
        due(1 << 6 | 1 << 10, x.mends());
        tear(x, 14);
        due(STATE, x.mends());
        tear(x, 0, 1, 2, 3, 15);
        due(STATE, x.mends());
        due(2, x.told(3));
    }

    static void p27OfSeveralTheLeast() {
        GreatCambric x = new GreatCambric();
        tear(x, 1, 5, 9, 13);
        due(1 << 1, x.mends());
        GreatCambric y = new GreatCambric();
        tear(y, 4, 5, 6, 7, 8, 9, 10, 11);
        due(1 << 4 | 1 << 8, y.mends());
    }

    static void p27TheGreatest() {
        GreatCambric x = new GreatCambric();
        tear(x, 11, 14);
        due(1 << 11, x.mends());
        tear(x, 12);
        due(1 << 11, x.mends());
        tear(x, 7, 10);
        due(1 << 14, x.mends());
    }

    // ---- promise 28: game

    static void p28WhatTooSmallOrLarge() {
        for (int what : outside(1)) {
            due(BEYOND, new GreatCambric().game(what));
        }
    }

    static void p28NoneIsWet() {
        GreatCambric x = new GreatCambric();
        due(0, x.game(0));
        due(0, x.told(2));
        due(NONE, x.game(1));
        due(1, x.told(2));
    }

    static void p28OneIsWet() {
        for (int c = 0; c < 16; c++) {
            GreatCambric x = new GreatCambric();
            wet(x, c);
            due(1, x.game(0));
            due(1 << c, x.game(1));
            due(1, x.ofCell(c, 0));
        }
    }

    static void p28TwoAreWet() {
        GreatCambric x = new GreatCambric();
        wet(x, 3, 7);
        due(1, x.game(0));
        due(1 << 3 | 1 << 7, x.game(1));
        GreatCambric y = new GreatCambric();
        wet(y, 3, 4);
        due(0, y.game(0));
        due(NONE, y.game(1));
        GreatCambric z = new GreatCambric();
        wet(z, 12, 13);
        due(1 << 12 | 1 << 13, z.game(1));
    }

    static void p28OfSeveralTheLeast() {
        // 1 and 5 BESIDE one another, 15 apart: without 1 or 5 two apart are left.
        GreatCambric x = new GreatCambric();
        wet(x, 1, 5, 15);
        due(1, x.game(0));
        due(1 << 1, x.game(1));
        GreatCambric y = new GreatCambric();
        wet(y, 0, 5, 10);
        due(1 << 0, y.game(1));
    }

    static void p28TornOnesAreDriedToo() {
        GreatCambric x = new GreatCambric();
        wet(x, 4, 5, 6);
        tear(x, 4, 5, 6);
        due(1 << 5, x.game(1));
    }

    static void p28TenAreAtMostWet() {
        GreatCambric x = new GreatCambric();
        wet(x, 0, 1, 4, 5, 6, 7, 8, 9, 10, 11);
        due(10, x.count(3));
        due(1, x.game(0));
        due(3, x.game(1));
        wet(x, 15);
        due(STATE, x.game(0));
        due(STATE, x.game(1));
        x.cell(15, 0, 0);
        due(3, x.game(1));
        for (int c = 0; c < 16; c++) {
            x.cell(c, 0, 99);
        }
        due(STATE, x.game(1));
    }

    /** {the CELLS that are WET, the set that HOW is}, as found by playing all out (PlainCambric). */
    private static final int[][] GAMES_OF_TEN = {
        {0, 1, 2, 3, 4, 5, 7, 8, 9, 11, 1 << 0},
        {0, 2, 3, 4, 5, 6, 8, 9, 10, 11, 1 << 3},
        {0, 1, 2, 4, 5, 6, 7, 8, 9, 11, 1 << 0 | 1 << 4},
        {0, 1, 2, 5, 6, 7, 9, 10, 12, 14, 1 << 5 | 1 << 6},
        {0, 1, 2, 3, 5, 6, 7, 9, 11, 12, 1 << 11},
        {0, 1, 2, 4, 5, 7, 8, 10, 11, 14, 1 << 10 | 1 << 11},
        {0, 1, 2, 4, 5, 8, 10, 11, 13, 14, 1 << 10 | 1 << 14},
        {0, 1, 4, 6, 7, 8, 10, 11, 13, 15, 1 << 15},
        {0, 1, 2, 4, 5, 7, 8, 11, 14, 15, 1 << 11 | 1 << 15},
        {1, 2, 3, 4, 5, 6, 11, 13, 14, 15, 1 << 14 | 1 << 15},
        {0, 1, 2, 3, 4, 5, 7, 8, 9, 10, 0},
        {0, 1, 2, 3, 4, 6, 7, 9, 10, 11, 0},
        {1, 2, 3, 4, 5, 6, 7, 9, 10, 11, 0}
    };

    static void p28GamesOfTen() {
        for (int[] game : GAMES_OF_TEN) {
            GreatCambric x = new GreatCambric();
            for (int i = 0; i < 10; i++) {
                wet(x, game[i]);
            }
            due(game[10] == 0 ? 0 : 1, x.game(0));
            due(game[10] == 0 ? NONE : game[10], x.game(1));
            due(10, x.count(3));
        }
    }

    static void p28OneGameBehindAnother() {
        GreatCambric x = new GreatCambric();
        wet(x, 0, 1, 4, 5, 8, 9);
        x.game(0);
        dryAll(x);
        // Two apart, though the first two of the game ahead stood BESIDE one another.
        wet(x, 3, 4);
        due(0, x.game(0));
        due(NONE, x.game(1));
        dryAll(x);
        due(0, x.game(0));
        wet(x, 7);
        due(1 << 7, x.game(1));
    }

    static void p28BeyondIsAskedAheadOfState() {
        GreatCambric x = new GreatCambric();
        wet(x, 0, 1, 2, 3, 4, 5, 6, 7, 8, 9, 10);
        due(BEYOND, x.game(2));
        due(0, x.told(3));
    }
}

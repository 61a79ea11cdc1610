/** The edges of promises 1 to 10, each by itself: a new object, the cloth, THE LIST, MOURNERS. */
public final class ClothEdgeTest extends Edges {
    private static final int[][] KINDS_ABOVE = {{0}, {1, 0}, {2, 0}, {3, 0}, {4, 1, 0}, {5, 2, 0}, {6, 3, 0}};

    private ClothEdgeTest() {
    }

    public static void main(String[] args) throws ReflectiveOperationException {
        runAll(ClothEdgeTest.class);
    }

    // ---- promise 1: all as at first, no MOURNERS

    static void p01NoCellIsWetOrTorn() {
        GreatCambric x = new GreatCambric();
        for (int c = 0; c < 16; c++) {
            due(0, x.ofCell(c, 0));
            due(0, x.ofCell(c, 1));
        }
        due(0, x.count(2));
        due(0, x.count(3));
        due(0, x.count(4));
        due(1, x.count(6));
    }

    static void p01NoMournerIsThere() {
        GreatCambric x = new GreatCambric();
        due(0, x.count(0));
        due(0, x.count(5));
        due(0, x.ofCell(0, 2));
        due(BEYOND, x.ofMourner(0, 0));
        due(BEYOND, x.change(0, 0, 0));
        due(BEYOND, x.become(0, 0));
        due(BEYOND, x.as(0, 0));
        due(BEYOND, x.eased(0, 0));
        due(BEYOND, x.cellFor(0, 0));
        due(BEYOND, x.kindFor(0, 0));
        due(BEYOND, x.voice(0, 0, 0));
    }

    static void p01YearIs0() {
        due(0, new GreatCambric().count(1));
    }

    static void p01EachPlaceHasTheMournerOfItsNumber() {
        for (int place = 0; place < 6; place++) {
            due(place, new GreatCambric().ofList(place));
        }
    }

    static void p01DrawsBeginWith1() {
        due(1, new GreatCambric().count(10));
        due(1, new GreatCambric().seed(0));
    }

    static void p01EachSheetIsMissing() {
        for (int sheet = 0; sheet < 4; sheet++) {
            due(NONE, new GreatCambric().put(sheet, 0, 0));
            due(NONE, new GreatCambric().wets(sheet));
            due(NONE, new GreatCambric().judge(sheet));
        }
    }

    static void p01TapeTraceImageAndWhatWaitsAreEmpty() {
        GreatCambric x = new GreatCambric();
        due(0, x.count(7));
        due(0, x.count(8));
        due(0, x.count(9));
        due(NONE, x.trace(0));
        due(NONE, x.restore());
        due(0, x.check());
    }

    static void p01NoUseHasAText() {
        due(7, new GreatCambric().law(0, 7, 50, 1));
        due(3, new GreatCambric().law(1, 7, 2, 1));
    }

    static void p01NoErrorIsTold() {
        for (int k = 1; k <= 5; k++) {
            due(0, new GreatCambric().told(k));
        }
    }

    static void p01ObjectsShareNothing() {
        GreatCambric one = oneMourner();
        GreatCambric other = new GreatCambric();
        one.cell(3, 0, 9);
        tear(one, 4);
        one.list(0, 7);
        due(1, text(one, 0, "9"));
        feed(one, "8");
        write(one, 0, 8, 1);
        one.voice(0, 0, 0);
        one.tell(3);
        one.seed(5);
        one.image();
        one.years(1);
        one.told(9);
        for (int what = 0; what < 10; what++) {
            due(what == 6 ? 1 : 0, other.count(what));
        }
        due(1, other.count(10));
        due(0, other.ofList(0));
        due(6, other.law(0, 6, 0, 0));
        due(NONE, other.wets(0));
        due(NONE, other.restore());
        due(0, other.told(1));
    }

    /** An object is used for at most 512 calls: the last one is answered as the first. */
    static void p01TheLastOf512CallsHolds() {
        GreatCambric x = new GreatCambric();
        for (int call = 1; call <= 511; call++) {
            due((call - 1) % 100, x.cell(15, 0, call % 100));
        }
        due(11, x.ofCell(15, 0));
    }

    // ---- promise 2: cell

    static void p02CellTooSmallOrLarge() {
        for (int cell : outside(15)) {
            due(BEYOND, new GreatCambric().cell(cell, 0, 0));
            due(BEYOND, new GreatCambric().cell(cell, 1, 0));
        }
    }

    static void p02WhatTooSmallOrLarge() {
        for (int what : outside(1)) {
            due(BEYOND, new GreatCambric().cell(0, what, 0));
        }
    }

    static void p02WetTooSmallOrLarge() {
        for (int v : outside(99)) {
            due(BEYOND, new GreatCambric().cell(0, 0, v));
        }
    }

    static void p02TornIs0Or1Alone() {
        for (int v : outside(1)) {
            due(BEYOND, new GreatCambric().cell(0, 1, v));
        }
        due(BEYOND, new GreatCambric().cell(0, 1, 99));
    }

    static void p02FirstAndLastCell() {
        GreatCambric x = new GreatCambric();
        due(0, x.cell(0, 0, 5));
        due(0, x.cell(15, 0, 6));
        due(5, x.cell(0, 0, 5));
        due(6, x.cell(15, 0, 6));
        due(0, x.cell(0, 1, 1));
        due(0, x.cell(15, 1, 1));
        due(0x8001, x.count(4));
    }

    static void p02LeastAndMostWet() {
        GreatCambric x = new GreatCambric();
        due(0, x.cell(7, 0, 99));
        due(99, x.cell(7, 0, 0));
        due(0, x.cell(7, 0, 0));
    }

    static void p02TornTwiceIsTornOnce() {
        GreatCambric x = new GreatCambric();
        due(0, x.cell(7, 1, 1));
        due(1, x.cell(7, 1, 1));
        due(1, x.cell(7, 1, 0));
        due(0, x.cell(7, 1, 0));
        due(0, x.count(4));
    }

    static void p02WetAndTornStandByThemselves() {
        GreatCambric x = new GreatCambric();
        due(0, x.cell(9, 0, 40));
        due(0, x.cell(9, 1, 1));
        due(40, x.cell(9, 0, 41));
        due(1, x.cell(9, 1, 0));
        due(41, x.ofCell(9, 0));
    }

    static void p02OneThatIsRefusedStays() {
        GreatCambric x = new GreatCambric();
        x.cell(9, 0, 40);
        x.cell(9, 1, 1);
        due(BEYOND, x.cell(9, 0, 100));
        due(BEYOND, x.cell(9, 1, 2));
        due(40, x.ofCell(9, 0));
        due(1, x.ofCell(9, 1));
    }

    // ---- promise 3: ofCell

    static void p03CellTooSmallOrLarge() {
        for (int cell : outside(15)) {
            for (int what = 0; what < 4; what++) {
                due(BEYOND, new GreatCambric().ofCell(cell, what));
            }
        }
    }

    static void p03WhatTooSmallOrLarge() {
        for (int what : outside(3)) {
            due(BEYOND, new GreatCambric().ofCell(0, what));
        }
    }

    static void p03NobodyIsAtIt() {
        due(0, oneMourner().ofCell(4, 2));
    }

    static void p03AllEightAreAtIt() {
        due(255, mourners(8).ofCell(5, 2));
        due(0, mourners(8).ofCell(0, 2));
    }

    static void p03BesideAreTwoThreeOrFour() {
        int[] beside = {2, 3, 3, 2, 3, 4, 4, 3, 3, 4, 4, 3, 2, 3, 3, 2};
        for (int c = 0; c < 16; c++) {
            due(beside[c], new GreatCambric().ofCell(c, 3));
        }
    }

    static void p03EachOneBesideCounts() {
        int[] beside5 = {1, 4, 6, 9};
        for (int c = 0; c < 16; c++) {
            GreatCambric x = new GreatCambric();
            wet(x, c);
            boolean isBeside = false;
            for (int b : beside5) {
                isBeside |= b == c;
            }
            due("WET " + c, isBeside ? 3 : 4, x.ofCell(5, 3));
        }
    }

    static void p03RowsDoNotGoRoundTheEdge() {
        GreatCambric x = new GreatCambric();
        wet(x, 4, 8, 12);
        due(2, x.ofCell(3, 3));
        due(3, x.ofCell(7, 3));
        due(3, x.ofCell(11, 3));
        GreatCambric y = new GreatCambric();
        wet(y, 3, 7, 11);
        due(3, y.ofCell(4, 3));
        due(3, y.ofCell(8, 3));
        due(2, y.ofCell(12, 3));
        GreatCambric z = new GreatCambric();
        wet(z, 12, 13, 14, 15);
        due(2, z.ofCell(0, 3));
        due(3, z.ofCell(1, 3));
        due(2, z.ofCell(3, 3));
    }

    static void p03NoneBesideIsTornOrDry() {
        GreatCambric x = new GreatCambric();
        wet(x, 1, 4);
        due(0, x.ofCell(0, 3));
        due(2, x.ofCell(5, 3));
    }

    static void p03OneTornAndDryCountsOnce() {
        GreatCambric x = new GreatCambric();
        tear(x, 1);
        due(2, x.ofCell(0, 3));
    }

    static void p03OneTornAndWetCounts() {
        GreatCambric x = new GreatCambric();
        wet(x, 1, 4);
        tear(x, 1);
        due(1, x.ofCell(0, 3));
    }

    static void p03ItItselfDoesNotCount() {
        GreatCambric x = new GreatCambric();
        wet(x, 0);
        due(2, x.ofCell(0, 3));
        tear(x, 0);
        due(2, x.ofCell(0, 3));
    }

    // ---- promises 4 and 5: THE LIST

    static void p04PlaceTooSmallOrLarge() {
        for (int place : outside(5)) {
            due(BEYOND, new GreatCambric().list(place, 0));
        }
    }

    static void p04MournerTooSmallOrLarge() {
        for (int mourner : outside(7)) {
            GreatCambric x = mourners(8);
            due(BEYOND, x.list(3, mourner));
            due(3, x.ofList(3));
        }
    }

    static void p04FirstAndLastPlaceAndMourner() {
        GreatCambric x = new GreatCambric();
        due(0, x.list(0, 7));
        due(5, x.list(5, 0));
        due(7, x.list(0, 0));
        due(0, x.list(5, 7));
        due(0, x.ofList(0));
        due(7, x.ofList(5));
    }

    static void p04OneWhoIsNotThereMayStandInIt() {
        GreatCambric x = oneMourner();
        due(0, x.list(0, 1));
        due(0, x.years(1));
        due(42, x.ofMourner(0, 2));
    }

    static void p05PlaceTooSmallOrLarge() {
        for (int place : outside(5)) {
            due(BEYOND, new GreatCambric().ofList(place));
        }
    }

    static void p05FirstAndLastPlace() {
        due(0, new GreatCambric().ofList(0));
        due(5, new GreatCambric().ofList(5));
    }

    // ---- promise 6: mourner

    static void p06KindAndNumberTooSmallOrLarge() {
        for (int km : outside(69)) {
            due(BEYOND, new GreatCambric().mourner(km, 0, 0));
        }
    }

    static void p06SorrowTooSmallOrLarge() {
        for (int sorrow : outside(99)) {
            due(BEYOND, new GreatCambric().mourner(0, sorrow, 0));
        }
    }

    static void p06CellTooSmallOrLarge() {
        for (int cell : outside(15)) {
            due(BEYOND, new GreatCambric().mourner(0, 0, cell));
        }
    }

    static void p06LeastAndMostOfEach() {
        GreatCambric x = new GreatCambric();
        due(0, x.mourner(0, 0, 0));
        due(1, x.mourner(69, 99, 15));
        int[][] due = {{0, 0, 0, 0}, {6, 9, 99, 15}};
        for (int i = 0; i < 2; i++) {
            for (int what = 0; what < 4; what++) {
                due(due[i][what], x.ofMourner(i, what));
            }
        }
    }

    static void p06EightAreAtMost() {
        GreatCambric x = mourners(7);
        due(7, x.mourner(0, 0, 0));
        due(FULL, x.mourner(0, 0, 0));
        due(8, x.count(0));
        due(0, x.ofMourner(7, 2));
        due(40, x.ofMourner(6, 2));
    }

    static void p06BeyondIsAskedAheadOfFull() {
        GreatCambric x = mourners(8);
        due(BEYOND, x.mourner(70, 0, 0));
        due(BEYOND, x.mourner(0, 100, 0));
        due(BEYOND, x.mourner(0, 0, 16));
        due(0, x.told(4));
        due(3, x.told(1));
    }

    static void p06OneThatIsRefusedIsNotThere() {
        GreatCambric x = new GreatCambric();
        due(BEYOND, x.mourner(0, 100, 0));
        due(0, x.count(0));
        due(0, x.mourner(0, 0, 0));
    }

    // ---- promise 7: ofMourner, and what KINDS weep, are eased by, and grieve

    static void p07MournerTooSmallOrLarge() {
        for (int mourner : outside(0)) {
            for (int what = 0; what < 7; what++) {
                due(BEYOND, oneMourner().ofMourner(mourner, what));
            }
        }
        due(BEYOND, mourners(8).ofMourner(8, 0));
    }

    static void p07WhatTooSmallOrLarge() {
        for (int what : outside(6)) {
            due(BEYOND, oneMourner().ofMourner(0, what));
        }
    }

    static void p07LastOfEight() {
        due(40, mourners(8).ofMourner(7, 2));
    }

    private static int wept(int km, int sorrow) {
        GreatCambric x = new GreatCambric();
        x.mourner(km, sorrow, 0);
        return x.ofMourner(0, 4);
    }

    static void p07MournerWeepsAFourthCutAnd1() {
        int[] sorrows = {0, 3, 4, 7, 8, 95, 96, 99};
        int[] weeps = {1, 1, 2, 2, 3, 24, 25, 25};
        for (int i = 0; i < sorrows.length; i++) {
            due(weeps[i], wept(9, sorrows[i]));
        }
    }

    static void p07WidowWeepsTwice() {
        due(2, wept(19, 0));
        due(2, wept(10, 3));
        due(4, wept(10, 4));
        due(50, wept(10, 99));
    }

    static void p07SailorWeeps0AtLeast() {
        due(0, wept(29, 0));
        due(0, wept(20, 7));
        due(0, wept(20, 11));
        due(1, wept(20, 12));
        due(22, wept(20, 99));
    }

    /** Seen in a TEXT that adds to what the KIND weeps, which is held to 0 itself no more there. */
    static void p07WhatTheKindWeepsIs0AtLeast() {
        int[] kms = {20, 29, 30, 60, 65, 69, 50};
        for (int km : kms) {
            GreatCambric x = new GreatCambric();
            x.mourner(km, 0, 0);
            due(1, text(x, 0, "w+5"));
            due(km + "", 5, x.ofMourner(0, 4));
        }
    }

    static void p07MemberWeeps0Below50() {
        due(0, wept(39, 0));
        due(0, wept(39, 49));
        due(13, wept(39, 50));
        due(25, wept(39, 99));
    }

    static void p07QueenWeeps10More() {
        due(12, wept(40, 0));
        due(60, wept(49, 99));
    }

    static void p07MiddyWeepsItsNumberMoreThanASailor() {
        due(0, wept(50, 0));
        due(9, wept(59, 0));
        due(10, wept(59, 12));
        due(31, wept(59, 99));
    }

    static void p07LaundressWeeps0AtLeast() {
        due(0, wept(69, 49));
        due(0, wept(60, 49));
        due(4, wept(69, 50));
        due(13, wept(60, 50));
        due(16, wept(69, 99));
    }

    /** Of an odd 11 that is wept, and of 0. */
    static void p07EasesIsHalfCut() {
        int[] of11 = {5, 5, 8, 5, 0, 8, 12};
        int[] of0 = {0, 0, 3, 0, 0, 3, 7};
        for (int kind = 0; kind < 7; kind++) {
            GreatCambric x = steady(11);
            x.mourner(10 * kind + 7, 60, 0);
            due("KIND " + kind, of11[kind], x.ofMourner(0, 5));
            due(1, text(x, 0, "0"));
            due("KIND " + kind, of0[kind], x.ofMourner(0, 5));
        }
    }

    static void p07GrievesByEvenAndOddYears() {
        int[] even = {2, 5, 2, 1, 5, 2, 1};
        int[] odd = {2, 5, 2, 1, 5, 0, 1};
        for (int kind = 0; kind < 7; kind++) {
            GreatCambric x = new GreatCambric();
            x.mourner(10 * kind, 60, 0);
            due(even[kind], x.ofMourner(0, 6));
            x.years(1);
            due(odd[kind], x.ofMourner(0, 6));
            x.years(1);
            due(even[kind], x.ofMourner(0, 6));
        }
    }

    static void p07QueenGrievesAThirdOfHerNumberCut() {
        int[] grieves = {5, 5, 5, 6, 6, 6, 7, 7, 7, 8};
        for (int m = 0; m < 10; m++) {
            GreatCambric x = new GreatCambric();
            x.mourner(40 + m, 0, 0);
            due(grieves[m], x.ofMourner(0, 6));
        }
    }

    static void p07WhatIsWeptIsHeldTo99And0() {
        GreatCambric x = oneMourner();
        due(1, text(x, 0, "s*3"));
        due(99, x.ofMourner(0, 4));
        due(49, x.ofMourner(0, 5));
        due(1, text(x, 0, "w-s"));
        due(0, x.ofMourner(0, 4));
        due(0, x.ofMourner(0, 5));
    }

    static void p07YearGoesRoundBy8InTexts() {
        GreatCambric x = oneMourner();
        x.list(0, 7);
        due(1, text(x, 0, "y"));
        for (int year = 0; year < 18; year++) {
            due(year % 8, x.ofMourner(0, 4));
            x.years(1);
        }
    }

    // ---- promise 8: change

    static void p08MournerTooSmallOrLarge() {
        for (int mourner : outside(0)) {
            due(BEYOND, oneMourner().change(mourner, 0, 0));
            due(BEYOND, oneMourner().change(mourner, 1, 0));
        }
        due(BEYOND, mourners(8).change(8, 0, 0));
    }

    static void p08WhatTooSmallOrLarge() {
        for (int what : outside(1)) {
            due(BEYOND, oneMourner().change(0, what, 0));
        }
    }

    static void p08SorrowTooSmallOrLarge() {
        for (int v : outside(99)) {
            GreatCambric x = oneMourner();
            due(BEYOND, x.change(0, 0, v));
            due(40, x.ofMourner(0, 2));
        }
    }

    static void p08CellTooSmallOrLarge() {
        for (int v : outside(15)) {
            GreatCambric x = oneMourner();
            due(BEYOND, x.change(0, 1, v));
            due(5, x.ofMourner(0, 3));
        }
        due(BEYOND, oneMourner().change(0, 1, 99));
    }

    static void p08LeastAndMost() {
        GreatCambric x = mourners(8);
        due(40, x.change(7, 0, 99));
        due(99, x.change(7, 0, 0));
        due(0, x.change(7, 0, 16));
        due(5, x.change(7, 1, 15));
        due(15, x.change(7, 1, 0));
        due(0, x.change(7, 1, 0));
        due(40, x.ofMourner(6, 2));
    }

    // ---- promise 9: become

    static void p09MournerTooSmallOrLarge() {
        for (int mourner : outside(0)) {
            due(BEYOND, oneMourner().become(mourner, 0));
        }
        due(BEYOND, mourners(8).become(8, 0));
    }

    static void p09KindAndNumberTooSmallOrLarge() {
        for (int km : outside(69)) {
            GreatCambric x = oneMourner();
            x.become(0, 35);
            due(BEYOND, x.become(0, km));
            due(3, x.ofMourner(0, 0));
            due(5, x.ofMourner(0, 1));
        }
    }

    static void p09LeastAndMost() {
        GreatCambric x = mourners(8);
        due(0, x.become(7, 69));
        due(6, x.become(7, 0));
        due(0, x.become(7, 9));
        due(0, x.ofMourner(7, 0));
        due(9, x.ofMourner(7, 1));
    }

    // ---- promise 10: as

    static void p10MournerTooSmallOrLarge() {
        for (int mourner : outside(0)) {
            due(BEYOND, oneMourner().as(mourner, 0));
        }
        due(BEYOND, mourners(8).as(8, 0));
    }

    static void p10KindTooSmallOrLarge() {
        for (int kind : outside(6)) {
            due(BEYOND, oneMourner().as(0, kind));
        }
    }

    static void p10KindOfEachAsEach() {
        for (int kind = 0; kind < 7; kind++) {
            for (int as = 0; as < 7; as++) {
                boolean is = false;
                for (int above : KINDS_ABOVE[kind]) {
                    is |= above == as;
                }
                GreatCambric x = new GreatCambric();
                x.mourner(10 * kind + 9, 0, 0);
                due(kind + " as " + as, is ? 9 : KIND, x.as(0, as));
            }
        }
    }

    static void p10BeyondIsAskedAheadOfKind() {
        GreatCambric x = oneMourner();
        due(BEYOND, x.as(1, 6));
        due(BEYOND, x.as(0, 7));
        due(0, x.told(5));
        due(KIND, x.as(0, 6));
        due(1, x.told(5));
        due(2, x.told(1));
    }
}

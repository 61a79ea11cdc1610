/** The edges of promises 16 to 22 and 29 to 31, each by itself: what would be behind some YEARS. */
public final class ThoughtEdgeTest extends Edges {
    private ThoughtEdgeTest() {
    }

    public static void main(String[] args) throws ReflectiveOperationException {
        runAll(ThoughtEdgeTest.class);
    }

    /** One who comes by in each YEAR, and weeps so much. */
    private static GreatCambric weepsEachYear(int wept, int sorrow) {
        GreatCambric x = steady(wept);
        x.mourner(0, sorrow, 0);
        for (int p = 0; p < 6; p++) {
            x.list(p, 0);
        }
        return x;
    }

    /** Some who come by, on a cloth that is partly WET and TORN. */
    private static GreatCambric crowded() {
        GreatCambric x = new GreatCambric();
        int[] kms = {5, 17, 24, 33, 42, 56};
        for (int i = 0; i < kms.length; i++) {
            x.mourner(kms[i], 90 - 9 * i, 15 - 2 * i);
        }
        x.list(0, 4);
        x.list(3, 6);
        x.cell(2, 0, 80);
        x.cell(7, 0, 33);
        tear(x, 4, 11);
        due(1, text(x, 1, "1+(n>2)"));
        return x;
    }

    private static int leastOf(int[] wet) {
        int least = 0;
        for (int i = 0; i < wet.length; i++) {
            least = wet[i] < wet[least] ? i : least;
        }
        return least;
    }

    // ---- promise 16: then

    static void p16TooFewOrManyYears() {
        for (int n : outside(60)) {
            due(BEYOND, oneMourner().then(n, 0));
        }
    }

    static void p16CellTooSmallOrLarge() {
        for (int cell : outside(15)) {
            due(BEYOND, oneMourner().then(0, cell));
        }
    }

    static void p16Behind0YearsItIsAsNow() {
        GreatCambric x = oneMourner();
        x.cell(0, 0, 7);
        x.cell(15, 0, 99);
        due(7, x.then(0, 0));
        due(99, x.then(0, 15));
        due(0, x.then(0, 5));
    }

    static void p16Behind60Years() {
        GreatCambric x = new GreatCambric();
        due(1, text(x, 1, "1"));
        x.cell(0, 0, 61);
        tear(x, 0);
        due(2, x.then(59, 0));
        due(1, x.then(60, 0));
        x.cell(0, 0, 60);
        due(0, x.then(60, 0));
    }

    static void p16IsOnlyThought() {
        GreatCambric x = oneMourner();
        due(4, x.then(1, 5));
        due(4, x.then(1, 5));
        due(0, x.ofCell(5, 0));
        due(40, x.ofMourner(0, 2));
        due(0, x.count(1));
    }

    static void p16AsTheYearsThenGo() {
        for (int n : new int[] {1, 2, 30, 59, 60}) {
            GreatCambric x = crowded();
            int[] wet = new int[16];
            for (int c = 0; c < 16; c++) {
                wet[c] = x.then(n, c);
            }
            int sum = x.all(n, 0);
            int sorrow = x.all(n, 1);
            int cells = x.all(n, 2);
            due(sum, x.years(n));
            dueWet(x, wet);
            due(sorrow, x.count(5));
            due(cells, x.count(3));
        }
    }

    static void p16BeyondYear9999() {
        GreatCambric x = oneMourner();
        until(x, 9999);
        dryAll(x);
        x.change(0, 0, 34);
        // It comes by in YEAR 10002 with SORROW 40.
        due(0, x.then(3, 5));
        due(4, x.then(4, 5));
        due(9999, x.count(1));
        due(1, text(x, 1, "0"));
        due(1, text(x, 0, "y"));
        // It comes by in 10002 (by 8: 2), 10008 (by 8: 0), 10014 (by 8: 6).
        due(2, x.then(9, 5));
        due(2, x.then(10, 5));
        due(8, x.then(16, 5));
        due(0, x.ofCell(5, 0));
    }

    // ---- promise 17: all

    static void p17TooFewOrManyYears() {
        for (int n : outside(60)) {
            due(BEYOND, oneMourner().all(n, 0));
        }
    }

    static void p17WhatTooSmallOrLarge() {
        for (int what : outside(2)) {
            due(BEYOND, oneMourner().all(0, what));
        }
    }

    static void p17Behind0YearsItIsAsNow() {
        GreatCambric x = mourners(8);
        x.cell(0, 0, 7);
        x.cell(15, 0, 99);
        due(106, x.all(0, 0));
        due(320, x.all(0, 1));
        due(2, x.all(0, 2));
    }

    static void p17AllAreWetAndAllAreDry() {
        GreatCambric x = new GreatCambric();
        due(0, x.all(0, 0));
        due(0, x.all(0, 1));
        due(0, x.all(0, 2));
        for (int c = 0; c < 16; c++) {
            x.cell(c, 0, 99);
        }
        due(1584, x.all(0, 0));
        due(16, x.all(0, 2));
        due(16 * 39, x.all(20, 0));
        due(16, x.all(32, 2));
        due(0, x.all(33, 2));
        due(0, x.all(60, 0));
    }

    static void p17SorrowBehind60Years() {
        GreatCambric x = mourners(2);
        x.list(0, 7);
        x.list(1, 7);
        due(80 + 4 * 29, x.all(29, 1));
        due(198, x.all(30, 1));
        due(198, x.all(60, 1));
    }

    static void p17OneIsWetBehindItOrNot() {
        GreatCambric x = new GreatCambric();
        x.cell(9, 0, 7);
        due(1, x.all(2, 2));
        due(0, x.all(3, 2));
        due(7, x.count(2));
    }

    // ---- promise 18: dry

    static void p18CellTooSmallOrLarge() {
        for (int cell : outside(15)) {
            due(BEYOND, new GreatCambric().dry(cell));
        }
    }

    private static GreatCambric driesBy1(int cell, int wet) {
        GreatCambric x = new GreatCambric();
        due(1, text(x, 1, "1"));
        x.cell(cell, 0, wet);
        tear(x, cell);
        return x;
    }

    static void p18DryNow() {
        due(0, new GreatCambric().dry(0));
        due(0, oneMourner().dry(5));
    }

    static void p18Behind1And60Years() {
        due(1, driesBy1(0, 1).dry(0));
        due(59, driesBy1(15, 59).dry(15));
        due(60, driesBy1(15, 60).dry(15));
    }

    static void p18NotBy60() {
        due(NONE, driesBy1(15, 61).dry(15));
        GreatCambric x = steady(0);
        x.cell(3, 0, 1);
        due(NONE, x.dry(3));
        due(1, x.count(2));
    }

    static void p18FirstOfSeveralTimes() {
        GreatCambric x = oneMourner();
        x.cell(5, 0, 3);
        x.list(0, 7);
        x.list(2, 0);
        // Dry behind 1 and 2 YEARS, WET behind 3.
        due(0, x.then(2, 5));
        due(5, x.then(3, 5));
        due(1, x.dry(5));
    }

    static void p18AsTriedOneByOne() {
        GreatCambric x = crowded();
        for (int c = 0; c < 16; c += 3) {
            int n = 0;
            while (n <= 60 && x.then(n, c) != 0) {
                n++;
            }
            due("CELL " + c, n > 60 ? NONE : n, x.dry(c));
        }
    }

    // ---- promise 19: eased

    static void p19MournerTooSmallOrLarge() {
        for (int mourner : outside(0)) {
            due(BEYOND, oneMourner().eased(mourner, 99));
        }
        due(BEYOND, mourners(8).eased(8, 99));
    }

    static void p19SorrowTooSmallOrLarge() {
        for (int v : outside(99)) {
            due(BEYOND, oneMourner().eased(0, v));
        }
    }

    static void p19EasedNow() {
        due(0, oneMourner().eased(0, 40));
        due(0, oneMourner().eased(0, 41));
        due(0, oneMourner().eased(0, 99));
        due(0, mourners(8).eased(7, 40));
    }

    static void p19ByVOrLess() {
        // 6 wept, 3 eased, 2 grieved: 1 less in each YEAR.
        GreatCambric x = weepsEachYear(6, 62);
        due(1, x.eased(0, 61));
        due(59, x.eased(0, 3));
        due(60, x.eased(0, 2));
        // 10 wept, 5 eased, 2 grieved: 3 less.
        GreatCambric y = weepsEachYear(10, 50);
        due(1, y.eased(0, 49));
        due(1, y.eased(0, 47));
        due(2, y.eased(0, 46));
    }

    static void p19NotBy60() {
        GreatCambric x = weepsEachYear(6, 62);
        due(NONE, x.eased(0, 1));
        due(NONE, x.eased(0, 0));
        due(NONE, oneMourner().eased(0, 36));
        due(62, x.ofMourner(0, 2));
    }

    static void p19By0() {
        GreatCambric x = weepsEachYear(99, 10);
        // It grieves 2 behind each YEAR.
        due(NONE, x.eased(0, 1));
        due(1, x.eased(0, 2));
        x.change(0, 0, 0);
        due(0, x.eased(0, 0));
        x.become(0, 50);
        x.change(0, 0, 10);
        // A MIDDY grieves in even YEARS alone: YEAR 0 leaves 2, YEAR 1 leaves 0.
        due(2, x.eased(0, 0));
    }

    // ---- promise 20: cellFor

    static void p20MournerTooSmallOrLarge() {
        for (int mourner : outside(0)) {
            due(BEYOND, oneMourner().cellFor(mourner, 0));
        }
        due(BEYOND, mourners(8).cellFor(8, 0));
    }

    static void p20TooFewOrManyYears() {
        for (int n : outside(60)) {
            due(BEYOND, oneMourner().cellFor(0, n));
        }
    }

    static void p20Behind0YearsTheLeast() {
        due(0, oneMourner().cellFor(0, 0));
    }

    static void p20Behind60Years() {
        GreatCambric x = steady(1);
        x.mourner(0, 0, 3);
        for (int p = 0; p < 6; p++) {
            x.list(p, 7);
        }
        x.list(5, 0);
        due(10, x.all(60, 0));
        due(9, x.all(59, 0));
        tear(x, 7);
        due(7, x.cellFor(0, 60));
        due(3, x.ofMourner(0, 3));
    }

    static void p20AsTriedOneByOne() {
        for (int n : new int[] {1, 6, 7, 59, 60}) {
            GreatCambric x = crowded();
            int[] wet = new int[16];
            for (int c = 0; c < 16; c++) {
                GreatCambric tried = crowded();
                tried.change(4, 1, c);
                wet[c] = tried.all(n, 0);
            }
            due(n + " YEARS", leastOf(wet), x.cellFor(4, n));
            due(7, x.ofMourner(4, 3));
        }
    }

    static void p20OfSeveralTheLeast() {
        // 5, 6, 9, 10 keep 4; a corner 6, an edge 5.
        GreatCambric x = oneMourner();
        due(5, x.cellFor(0, 1));
        // What is wept on one that is TORN leaves all as it was.
        tear(x, 14, 12);
        due(12, x.cellFor(0, 1));
    }

    static void p20TheFirstAndTheLast() {
        GreatCambric x = oneMourner();
        tear(x, 15);
        due(15, x.cellFor(0, 1));
        tear(x, 0);
        due(0, x.cellFor(0, 1));
    }

    static void p20AsWetAsItCanBe() {
        // All by 99, but for CELL 0: there it would wet, elsewhere it can't.
        GreatCambric x = steady(1);
        x.mourner(0, 0, 0);
        for (int c = 0; c < 16; c++) {
            x.cell(c, 0, c == 0 ? 98 : 99);
        }
        due(1, x.cellFor(0, 1));
        due(1584, x.all(1, 0));
        x.cell(0, 0, 99);
        due(0, x.cellFor(0, 1));
    }

    // ---- promise 21: comesFor

    static void p21PlaceTooSmallOrLarge() {
        for (int place : outside(5)) {
            due(BEYOND, mourners(8).comesFor(place, 0));
        }
    }

    static void p21TooFewOrManyYears() {
        for (int n : outside(60)) {
            due(BEYOND, oneMourner().comesFor(0, n));
        }
    }

    static void p21NobodyIsThere() {
        due(0, new GreatCambric().comesFor(0, 0));
        due(0, new GreatCambric().comesFor(5, 60));
    }

    static void p21WhoIsNotThereWetsNothing() {
        due(1, oneMourner().comesFor(0, 1));
        due(7, mourners(7).comesFor(0, 1));
        due(0, mourners(8).comesFor(0, 1));
    }

    static void p21AsTriedOneByOne() {
        for (int n : new int[] {1, 6, 7, 59, 60}) {
            GreatCambric x = crowded();
            for (int place = 0; place < 6; place++) {
                int[] wet = new int[8];
                for (int i = 0; i < 8; i++) {
                    GreatCambric tried = crowded();
                    tried.list(place, i);
                    wet[i] = tried.all(n, 0);
                }
                due(n + " YEARS, place " + place, leastOf(wet), x.comesFor(place, n));
            }
        }
    }

    static void p21OfSeveralTheLeast() {
        GreatCambric x = mourners(8);
        x.become(0, 10);
        x.become(3, 30);
        x.become(5, 30);
        due(3, x.comesFor(0, 1));
        due(3, x.ofMourner(3, 0));
        due(0, x.ofList(0));
    }

    static void p21TheLast() {
        GreatCambric x = mourners(8);
        x.become(7, 30);
        due(7, x.comesFor(0, 1));
    }

    static void p21APlaceThatDoesNotComeBy() {
        GreatCambric x = oneMourner();
        due(0, x.comesFor(1, 1));
        due(1, x.comesFor(1, 2));
        due(0, x.comesFor(5, 5));
        due(1, x.comesFor(5, 6));
    }

    // ---- promise 22: kindFor

    static void p22MournerTooSmallOrLarge() {
        for (int mourner : outside(0)) {
            due(BEYOND, oneMourner().kindFor(mourner, 0));
        }
        due(BEYOND, mourners(8).kindFor(8, 0));
    }

    static void p22TooFewOrManyYears() {
        for (int n : outside(60)) {
            due(BEYOND, oneMourner().kindFor(0, n));
        }
    }

    static void p22Behind0YearsTheLeast() {
        GreatCambric x = oneMourner();
        x.become(0, 45);
        due(0, x.kindFor(0, 0));
        due(4, x.ofMourner(0, 0));
    }

    static void p22AsTriedOneByOne() {
        for (int n : new int[] {1, 6, 7, 59, 60}) {
            GreatCambric x = crowded();
            for (int i = 0; i < 6; i++) {
                int[] wet = new int[7];
                for (int kind = 0; kind < 7; kind++) {
                    GreatCambric tried = crowded();
                    tried.become(i, 10 * kind + tried.ofMourner(i, 1));
                    wet[kind] = tried.all(n, 0);
                }
                due(n + " YEARS, MOURNER " + i, leastOf(wet), x.kindFor(i, n));
            }
        }
    }

    static void p22OfSeveralTheLeast() {
        // MEMBER and LAUNDRESS weep nothing with 40.
        due(3, oneMourner().kindFor(0, 1));
        // With 0 SAILOR weeps nothing, too; MEMBER, LAUNDRESS, and MIDDY with m 0 likewise.
        GreatCambric x = oneMourner();
        x.change(0, 0, 0);
        due(1, text(x, 1, "0"));
        due(2, x.kindFor(0, 1));
    }

    static void p22TheLastWithItsNumber() {
        // LAUNDRESS weeps 13 less 9, SAILOR 13 less 3.
        GreatCambric x = oneMourner();
        x.change(0, 0, 50);
        x.become(0, 9);
        due(6, x.kindFor(0, 1));
        x.become(0, 0);
        due(2, x.kindFor(0, 1));
    }

    // ---- promise 29: which

    static void p29SheetTooSmallOrLarge() {
        for (int sheet : outside(3)) {
            due(BEYOND, oneMourner().which(sheet, 0));
        }
    }

    static void p29MournerTooSmallOrLarge() {
        for (int mourner : outside(0)) {
            GreatCambric x = oneMourner();
            write(x, 0, 8);
            due(BEYOND, x.which(0, mourner));
        }
    }

    static void p29AMissingSheet() {
        GreatCambric x = oneMourner();
        for (int sheet = 0; sheet < 4; sheet++) {
            due(NONE, x.which(sheet, 0));
        }
        due(BEYOND, x.which(0, 1));
        write(x, 3, 8);
        due(127, x.which(3, 0));
        x.sheet(3, 0, 0);
        due(NONE, x.which(3, 0));
    }

    static void p29AnEmptySheetIsTrueOfAll() {
        GreatCambric x = mourners(8);
        for (int bits = 8; bits <= 32; bits *= 2) {
            write(x, 1, bits);
            due(127, x.which(1, 7));
        }
    }

    static void p29TrueOfNone() {
        GreatCambric x = oneMourner();
        write(x, 0, 8, -1);
        due(0, x.which(0, 0));
        write(x, 0, 32, LEAST);
        due(0, x.which(0, 0));
    }

    static void p29EachKindByItself() {
        // With 60 and m 5: 16, 32, 13, 16, 42, 18, 11 are wept, on one that neither seeps nor dries.
        int[] weeps = {16, 32, 13, 16, 42, 18, 11};
        for (int kind = 0; kind < 7; kind++) {
            GreatCambric x = new GreatCambric();
            x.mourner(5, 60, 0);
            tear(x, 1, 4);
            due(1, text(x, 1, "0"));
            write(x, 0, 8, weeps[kind]);
            due(weeps[kind] == 16 ? 1 | 8 : 1 << kind, x.which(0, 0));
        }
    }

    static void p29FortyNumbers() {
        GreatCambric x = oneMourner();
        due(1, text(x, 0, "0"));
        write(x, 0, 16, new int[40]);
        due(127, x.which(0, 0));
        x.put(0, 39, 1);
        due(0, x.which(0, 0));
        x.put(0, 39, 0);
        x.put(0, 0, 1);
        due(0, x.which(0, 0));
    }

    /** A SHEET of 40 that is true of the QUEEN alone, and then of nobody. */
    static void p29AsTriedOneByOne() {
        GreatCambric x = crowded();
        GreatCambric queen = crowded();
        queen.become(1, 47);
        x.sheet(0, 16, 40);
        for (int i = 0; i < 40; i++) {
            x.put(0, i, queen.all(i + 1, 0));
        }
        due(1 << 4, x.which(0, 1));
        x.put(0, 39, queen.all(40, 0) + 1);
        due(0, x.which(0, 1));
    }

    static void p29BeyondYear9999() {
        GreatCambric x = oneMourner();
        until(x, 9999);
        dryAll(x);
        x.change(0, 0, 34);
        write(x, 0, 8, 0, 0, 0, 4);
        // A MIDDY grieves in YEAR 10000 alone, and weeps 7 of 36: 4 are left, too.
        due(1 | 1 << 5, x.which(0, 0));
        due(9999, x.count(1));
    }

    // ---- promise 30: sorry

    static void p30SheetTooSmallOrLarge() {
        for (int sheet : outside(3)) {
            due(BEYOND, oneMourner().sorry(sheet, 0, 0));
        }
    }

    static void p30MournerTooSmallOrLarge() {
        for (int mourner : outside(0)) {
            GreatCambric x = oneMourner();
            write(x, 0, 8);
            due(BEYOND, x.sorry(0, mourner, 0));
        }
    }

    static void p30WhatTooSmallOrLarge() {
        for (int what : outside(1)) {
            GreatCambric x = oneMourner();
            write(x, 0, 8);
            due(BEYOND, x.sorry(0, 0, what));
        }
    }

    static void p30AMissingSheet() {
        for (int sheet = 0; sheet < 4; sheet++) {
            due(NONE, oneMourner().sorry(sheet, 0, 0));
            due(NONE, oneMourner().sorry(sheet, 0, 1));
            due(BEYOND, oneMourner().sorry(sheet, 0, 2));
            due(BEYOND, oneMourner().sorry(sheet, 1, 0));
        }
    }

    static void p30AnEmptySheetIsTrueOfAll() {
        GreatCambric x = mourners(8);
        write(x, 3, 32);
        due(100, x.sorry(3, 7, 0));
        due(0, x.sorry(3, 7, 1));
    }

    static void p30TrueOfNone() {
        GreatCambric x = oneMourner();
        write(x, 0, 8, -1);
        due(0, x.sorry(0, 0, 0));
        due(0, x.told(2));
        due(NONE, x.sorry(0, 0, 1));
        due(1, x.told(2));
    }

    /** SORROW itself is wept: one number is true of one SORROW alone. */
    static void p30TheLeastAndTheGreatest() {
        GreatCambric x = oneMourner();
        due(1, text(x, 0, "s"));
        due(1, text(x, 1, "0"));
        for (int sorrow : new int[] {0, 1, 50, 98, 99}) {
            write(x, 0, 16, sorrow);
            due(1, x.sorry(0, 0, 0));
            due(sorrow, x.sorry(0, 0, 1));
        }
        write(x, 0, 16, 100);
        due(0, x.sorry(0, 0, 0));
        due(40, x.ofMourner(0, 2));
    }

    static void p30AsTriedOneByOne() {
        GreatCambric x = crowded();
        x.sheet(0, 32, 40);
        for (int i = 0; i < 40; i++) {
            x.put(0, i, x.all(i + 1, 0));
        }
        int many = 0;
        int least = -1;
        for (int sorrow = 0; sorrow < 100; sorrow++) {
            GreatCambric tried = crowded();
            tried.change(1, 0, sorrow);
            boolean isSo = true;
            for (int n = 1; n <= 40 && isSo; n++) {
                isSo = tried.all(n, 0) == crowded().all(n, 0);
            }
            many += isSo ? 1 : 0;
            least = isSo && least < 0 ? sorrow : least;
        }
        due(1, many < 100 && least > 0 ? 1 : 0);
        due(many, x.sorry(0, 1, 0));
        due(least, x.sorry(0, 1, 1));
        due(81, x.ofMourner(1, 2));
    }

    static void p30FortyNumbers() {
        GreatCambric x = oneMourner();
        due(1, text(x, 0, "0"));
        write(x, 0, 32, new int[40]);
        due(100, x.sorry(0, 0, 0));
        due(0, x.sorry(0, 0, 1));
        x.put(0, 39, 1);
        due(0, x.sorry(0, 0, 0));
        due(NONE, x.sorry(0, 0, 1));
    }

    // ---- promise 31: odds

    static void p31TooFewOrManyYears() {
        for (int n : outside(30)) {
            due(BEYOND, oneMourner().odds(n, 0, 0));
        }
        due(BEYOND, oneMourner().odds(60, 0, 0));
    }

    static void p31WetTooSmallOrLarge() {
        for (int v : outside(1584)) {
            due(BEYOND, oneMourner().odds(0, v, 0));
        }
    }

    static void p31PartTooSmallOrLarge() {
        for (int part : outside(1)) {
            due(BEYOND, oneMourner().odds(0, 0, part));
        }
    }

    private static void odds(int above, int below, GreatCambric x, int n, int v) {
        due(above, x.odds(n, v, 0));
        due(below, x.odds(n, v, 1));
    }

    static void p31NoneOfThemIs0By1() {
        GreatCambric x = new GreatCambric();
        x.cell(0, 0, 5);
        odds(0, 1, x, 0, 4);
        odds(0, 1, mourners(8), 1, 3);
    }

    static void p31AllOfThemAre1By1() {
        GreatCambric x = new GreatCambric();
        odds(1, 1, x, 0, 0);
        x.cell(0, 0, 5);
        odds(1, 1, x, 0, 5);
        for (int c = 0; c < 16; c++) {
            x.cell(c, 0, 99);
        }
        odds(0, 1, x, 0, 1583);
        odds(1, 1, x, 0, 1584);
        odds(1, 1, x, 30, 1584);
        odds(1, 1, x, 30, 16 * 9);
        odds(0, 1, x, 30, 16 * 9 - 1);
    }

    static void p31InLowestTerms() {
        int[] above = {1, 7, 3, 5, 1, 3, 1, 1, 0};
        int[] below = {1, 8, 4, 8, 2, 8, 4, 8, 1};
        for (int many = 0; many <= 8; many++) {
            odds(above[many], below[many], mourners(many), 1, 3);
        }
    }

    static void p31VOrLess() {
        odds(7, 8, oneMourner(), 1, 3);
        odds(1, 1, oneMourner(), 1, 4);
    }

    static void p31AsTriedOneByOne() {
        for (int n : new int[] {0, 1, 29, 30}) {
            GreatCambric x = crowded();
            x.years(2);
            int v = x.all(n, 0);
            int above = 0;
            for (int i = 0; i < 8; i++) {
                GreatCambric tried = crowded();
                tried.years(2);
                tried.list(2, i);
                above += tried.all(n, 0) <= v ? 1 : 0;
            }
            due(above * x.odds(n, v, 1), 8 * x.odds(n, v, 0));
            due(1, x.odds(n, v, 0) % 2 | x.odds(n, v, 1) % 2);
        }
    }

    static void p31ThePlaceOfThisYear() {
        GreatCambric x = oneMourner();
        x.list(0, 7);
        odds(7, 8, x, 1, 3);
        due(7, x.ofList(0));
        x.years(5);
        odds(7, 8, x, 1, 3);
        due(5, x.ofList(5));
        // YEAR 6 has place 0 again.
        x.years(1);
        odds(7, 8, x, 1, 3);
        due(6, x.count(1));
    }
}

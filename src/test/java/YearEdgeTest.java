/** The edges of a YEAR, of promises 14 and 15, and of the draws (32), each by itself. */
public final class YearEdgeTest extends Edges {
    private YearEdgeTest() {
    }

    public static void main(String[] args) throws ReflectiveOperationException {
        runAll(YearEdgeTest.class);
    }

    // ---- promise 14: years

    static void p14TooFewOrManyYears() {
        for (int n : outside(60)) {
            GreatCambric x = oneMourner();
            due(BEYOND, x.years(n));
            due(0, x.count(1));
        }
        due(BEYOND, oneMourner().years(0));
    }

    static void p14OneAndSixtyYears() {
        GreatCambric x = new GreatCambric();
        due(0, x.years(1));
        due(1, x.count(1));
        due(0, x.years(60));
        due(61, x.count(1));
    }

    static void p14UntilYear9999AndNoFurther() {
        GreatCambric x = new GreatCambric();
        until(x, 9939);
        due(0, x.years(60));
        due(9999, x.count(1));
        due(STATE, x.years(1));
        due(STATE, x.years(60));
        due(9999, x.count(1));
    }

    static void p14OneYearTooManyIsNotBegun() {
        GreatCambric x = new GreatCambric();
        until(x, 9990);
        x.cell(5, 0, 99);
        due(STATE, x.years(10));
        due(9990, x.count(1));
        due(99, x.ofCell(5, 0));
        x.years(9);
        due(9999, x.count(1));
    }

    static void p14BeyondIsAskedAheadOfState() {
        GreatCambric x = new GreatCambric();
        until(x, 9999);
        due(BEYOND, x.years(61));
        due(BEYOND, x.years(0));
        due(BEYOND, x.loose(41));
        due(BEYOND, x.loose(0));
        due(0, x.told(3));
    }

    static void p14TheListGoesRoundBy6() {
        GreatCambric x = steady(1);
        x.mourner(0, 99, 0);
        int[] sums = {1, 1, 1, 1, 1, 1, 2, 2, 2, 2, 2, 2, 3};
        for (int sum : sums) {
            due(sum, x.years(1));
        }
    }

    static void p14EachPlaceComesByInItsYear() {
        GreatCambric x = steady(1);
        for (int i = 0; i < 6; i++) {
            x.mourner(0, 99, 2 * i);
        }
        for (int i = 0; i < 6; i++) {
            due(i + 1, x.years(1));
            due(1, x.ofCell(2 * i, 0));
        }
    }

    static void p14WhoIsNotThereDoesNotWeep() {
        GreatCambric x = steady(9);
        x.mourner(0, 50, 0);
        x.list(0, 1);
        due(0, x.years(1));
        due(52, x.ofMourner(0, 2));
        x.list(1, 7);
        due(0, x.years(1));
        x.list(2, 0);
        due(9, x.years(1));
    }

    static void p14WeepsOnOneThatIsTorn() {
        GreatCambric x = steady(9);
        x.mourner(0, 50, 3);
        tear(x, 3);
        due(0, x.years(1));
        due(50 - 4 + 2, x.ofMourner(0, 2));
    }

    static void p14WetIsHeldTo99BeforeItSeeps() {
        GreatCambric x = steady(1);
        x.mourner(0, 50, 0);
        x.cell(0, 0, 99);
        due(99, x.years(1));
        dueWet(x, 97, 1, 0, 0, 1);
        GreatCambric y = steady(99);
        y.mourner(0, 50, 0);
        y.cell(0, 0, 99);
        due(99, y.years(1));
    }

    static void p14SorrowIsHeldTo0BeforeItGrieves() {
        GreatCambric x = steady(99);
        x.mourner(0, 49, 0);
        x.years(1);
        due(2, x.ofMourner(0, 2));
        GreatCambric y = steady(99);
        y.mourner(0, 48, 0);
        y.years(1);
        due(2, y.ofMourner(0, 2));
        GreatCambric z = steady(99);
        z.mourner(0, 50, 0);
        z.years(1);
        due(3, z.ofMourner(0, 2));
    }

    static void p14SorrowIsHeldTo99() {
        GreatCambric x = new GreatCambric();
        x.list(0, 7);
        x.mourner(10, 94, 0);
        x.mourner(10, 95, 0);
        x.mourner(10, 99, 0);
        x.years(1);
        due(99, x.ofMourner(0, 2));
        due(99, x.ofMourner(1, 2));
        due(99, x.ofMourner(2, 2));
    }

    static void p14EachGrievesToo() {
        GreatCambric x = new GreatCambric();
        x.list(0, 7);
        for (int kind = 0; kind < 7; kind++) {
            x.mourner(10 * kind + 9, 0, 0);
        }
        int[] even = {2, 5, 2, 1, 8, 2, 1};
        int[] odd = {4, 10, 4, 2, 16, 2, 2};
        x.list(1, 7);
        x.years(1);
        for (int kind = 0; kind < 7; kind++) {
            due(even[kind], x.ofMourner(kind, 2));
        }
        x.years(1);
        for (int kind = 0; kind < 7; kind++) {
            due(odd[kind], x.ofMourner(kind, 2));
        }
    }

    static void p14SeepsBy10ButNotBy9() {
        GreatCambric x = steady(0);
        x.cell(0, 0, 9);
        due(9, x.years(1));
        dueWet(x, 9);
        x.cell(0, 0, 10);
        due(10, x.years(1));
        dueWet(x, 8, 1, 0, 0, 1);
    }

    static void p14SeepsTheOtherWay() {
        GreatCambric x = steady(0);
        x.cell(15, 0, 9);
        x.years(1);
        due(9, x.ofCell(15, 0));
        x.cell(15, 0, 10);
        x.years(1);
        dueWet(x, 0, 0, 0, 0, 0, 0, 0, 0, 0, 0, 0, 1, 0, 0, 1, 8);
    }

    static void p14SeepsToAllFourAndTheMostLoses4() {
        GreatCambric x = steady(0);
        x.cell(10, 0, 99);
        due(99, x.years(1));
        dueWet(x, 0, 0, 0, 0, 0, 0, 1, 0, 0, 1, 95, 1, 0, 0, 1);
    }

    static void p14SeepsFromAllFourAtOnce() {
        GreatCambric x = steady(0);
        for (int c : new int[] {1, 4, 6, 9}) {
            x.cell(c, 0, 10);
        }
        tear(x, 0, 2, 7, 8, 10, 13);
        x.years(1);
        dueWet(x, 0, 9, 0, 0, 9, 4, 9, 0, 0, 9);
    }

    static void p14SeepsByAllAsItBegins() {
        // 1 is 9 more than 2 as it begins, though 10 more once 0 has seeped.
        GreatCambric x = steady(0);
        x.cell(0, 0, 20);
        x.cell(1, 0, 10);
        x.cell(2, 0, 1);
        for (int c = 4; c < 16; c++) {
            tear(x, c);
        }
        x.years(1);
        dueWet(x, 19, 11, 1);
        // 1 is 10 more than 2 as it begins, though 9 more once it has seeped to 5.
        GreatCambric y = steady(0);
        y.cell(1, 0, 10);
        tear(y, 0, 3, 4, 6, 8, 9);
        y.years(1);
        dueWet(y, 0, 8, 1, 0, 0, 1);
    }

    static void p14DoesNotSeepRoundTheEdge() {
        GreatCambric x = steady(0);
        x.cell(3, 0, 50);
        x.cell(12, 0, 50);
        x.years(1);
        dueWet(x, 0, 0, 1, 48, 0, 0, 0, 1, 1, 0, 0, 0, 48, 1);
    }

    static void p14TornOnesDoNotSeep() {
        GreatCambric x = steady(0);
        x.cell(5, 0, 50);
        tear(x, 5);
        x.years(1);
        due(50, x.ofCell(5, 0));
        tear(x, 1, 4, 6, 9);
        x.cell(5, 1, 0);
        x.years(1);
        due(50, x.ofCell(5, 0));
        x.cell(6, 1, 0);
        x.years(1);
        due(49, x.ofCell(5, 0));
        due(1, x.ofCell(6, 0));
    }

    static void p14DriesTo0AtLeast() {
        GreatCambric x = new GreatCambric();
        x.cell(0, 0, 2);
        x.cell(6, 0, 3);
        x.cell(15, 0, 4);
        due(1, x.years(1));
        due(0, x.ofCell(0, 0));
        due(0, x.ofCell(6, 0));
        due(1, x.ofCell(15, 0));
        due(1, text(x, 1, "99"));
        x.cell(3, 0, 99);
        due(0, x.years(1));
    }

    static void p14DriesByWhatIsHeldTo0And99() {
        GreatCambric x = new GreatCambric();
        due(1, text(x, 1, "0-5"));
        x.cell(0, 0, 9);
        due(9, x.years(1));
        due(1, text(x, 1, "9999"));
        due(0, x.years(1));
    }

    static void p14TornOnesDry() {
        GreatCambric x = new GreatCambric();
        x.cell(0, 0, 9);
        tear(x, 0);
        due(6, x.years(1));
    }

    static void p14DriesByHowManyAreDryAsThatBegins() {
        // 11 and 14 are WET as it begins, and dry behind it.
        GreatCambric x = new GreatCambric();
        for (int c = 0; c < 16; c++) {
            x.cell(c, 0, c == 15 ? 9 : 1);
        }
        due(1, text(x, 1, "1+n*9"));
        due(8, x.years(1));
        due(8, x.ofCell(15, 0));
        // 1 and 4 are dry before 0 seeps to them.
        GreatCambric y = new GreatCambric();
        y.cell(0, 0, 10);
        due(1, text(y, 1, "n*4"));
        due(8, y.years(1));
        due(8, y.ofCell(0, 0));
    }

    static void p14DriesByThoseTornAndWetToo() {
        GreatCambric x = new GreatCambric();
        due(1, text(x, 1, "n"));
        x.cell(0, 0, 9);
        x.cell(1, 0, 50);
        x.cell(4, 0, 8);
        tear(x, 1);
        // 0 has 1 (TORN) beside it, 1 has 2 and 5 (dry), 4 has 5 and 8 (dry).
        due(8 + 48 + 6, x.years(1));
        due(8, x.ofCell(0, 0));
    }

    static void p14DriesByTheYearThatPasses() {
        GreatCambric x = new GreatCambric();
        due(1, text(x, 1, "y"));
        for (int year = 0; year < 10; year++) {
            x.cell(0, 0, 9);
            due(9 - year % 8, x.years(1));
        }
    }

    static void p14WeepsByTheYearThatPasses() {
        GreatCambric x = new GreatCambric();
        x.mourner(0, 50, 0);
        due(1, text(x, 0, "y"));
        due(1, text(x, 1, "0"));
        for (int p = 0; p < 6; p++) {
            x.list(p, 0);
        }
        for (int year = 0; year < 10; year++) {
            dryAll(x);
            due(year % 8, x.years(1));
        }
    }

    // ---- promise 15: loose

    static void p15TooFewOrManyYears() {
        for (int n : outside(40)) {
            GreatCambric x = oneMourner();
            due(BEYOND, x.loose(n));
            due(0, x.count(1));
            due(1, x.count(10));
        }
        due(BEYOND, oneMourner().loose(0));
        due(BEYOND, oneMourner().loose(60));
    }

    static void p15OneAndFortyYears() {
        GreatCambric x = new GreatCambric();
        due(0, x.loose(1));
        due(1, x.count(1));
        due(0, x.loose(40));
        due(41, x.count(1));
    }

    static void p15UntilYear9999AndNoFurther() {
        GreatCambric x = new GreatCambric();
        until(x, 9959);
        due(0, x.loose(40));
        due(9999, x.count(1));
        due(STATE, x.loose(1));
        due(STATE, x.loose(40));
        due(9999, x.count(1));
    }

    static void p15OneYearTooManyIsNotDrawn() {
        GreatCambric x = new GreatCambric();
        until(x, 9990);
        due(STATE, x.loose(10));
        due(1, x.count(10));
        due(0, x.ofList(0));
        due(9990, x.count(1));
        due(0, x.loose(9));
        due(9999, x.count(1));
    }

    /** The first draw is 4310654 (by 8: 6), the other one 9862832 (by 16: 0). */
    static void p15WhoIsDrawnButNotThere() {
        GreatCambric x = mourners(6);
        due(0, x.loose(1));
        due(6, x.ofList(0));
        due(63, x.ofCell(5, 2));
        due(-1770082073, x.count(10));
    }

    static void p15WhoIsDrawnLastOfThoseThere() {
        GreatCambric x = mourners(7);
        // 11 on a corner: 2 seep, 3, 1 and 1 dry.
        due(6, x.loose(1));
        due(6, x.ofList(0));
        due(64, x.ofCell(0, 2));
        due(63, x.ofCell(5, 2));
        due(-1770082073, x.count(10));
    }

    static void p15DrawsGoRoundInInts() {
        GreatCambric x = mourners(8);
        due(1, x.seed(-1));
        x.loose(1);
        // -1103502900 >>> 8 is 12466657 (by 8: 1), 288979989 >>> 8 is 1128828 (by 16: 12).
        due(1, x.ofList(0));
        due(12, x.ofMourner(1, 3));
        due(288979989, x.count(10));
        x.loose(1);
        // 646343466 >>> 8 is 2524779 (by 8: 3), -396452581 >>> 8 is 15228573 (by 16: 13).
        due(3, x.ofList(1));
        due(13, x.ofMourner(3, 3));
        due(-396452581, x.count(10));
    }

    static void p15ThePlaceGoesRoundBy6() {
        GreatCambric x = new GreatCambric();
        x.years(5);
        x.loose(1);
        due(6, x.ofList(5));
        due(0, x.ofList(0));
        x.loose(1);
        due(4, x.ofList(0));
        due(1, x.ofList(1));
    }

    // ---- promise 32: seed

    static void p32AnyNumber() {
        int[] numbers = {0, -1, LEAST, GREATEST, -1000000000, -1000000001, -1000000005, 1};
        GreatCambric x = new GreatCambric();
        int was = 1;
        for (int z : numbers) {
            due(was, x.seed(z));
            due(z, x.count(10));
            was = z;
        }
        for (int k = 1; k <= 5; k++) {
            due(0, x.told(k));
        }
    }

    static void p32From0() {
        GreatCambric x = new GreatCambric();
        x.seed(0);
        x.loose(1);
        // 12345 >>> 8 is 48 (by 8: 0).
        due(0, x.ofList(0));
        due(12345 * 1103515245 + 12345, x.count(10));
    }
}

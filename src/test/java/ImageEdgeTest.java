/** The edges of promises 40 to 45, each by itself: images, what waits, what is counted and told. */
public final class ImageEdgeTest extends Edges {
    private ImageEdgeTest() {
    }

    public static void main(String[] args) throws ReflectiveOperationException {
        runAll(ImageEdgeTest.class);
    }

    // ---- promises 40 and 41: image, restore

    static void p40HowOftenThatWasDone() {
        GreatCambric x = new GreatCambric();
        for (int times = 1; times <= 40; times++) {
            due(times, x.image());
        }
        x.restore();
        due(41, x.image());
    }

    static void p40InPlaceOfOneAhead() {
        GreatCambric x = new GreatCambric();
        x.image();
        x.years(3);
        x.image();
        x.years(3);
        due(3, x.restore());
        due(3, x.count(1));
    }

    static void p41ThereIsNone() {
        GreatCambric x = oneMourner();
        due(NONE, x.restore());
        due(1, x.count(0));
        due(1, x.told(2));
    }

    static void p41TheImageStays() {
        GreatCambric x = new GreatCambric();
        x.years(2);
        x.image();
        for (int i = 0; i < 3; i++) {
            x.years(5);
            x.cell(4, 0, 60);
            due(2, x.restore());
            due(0, x.ofCell(4, 0));
        }
    }

    static void p41OfANewObject() {
        GreatCambric x = new GreatCambric();
        due(1, x.image());
        x.mourner(69, 99, 15);
        x.cell(0, 0, 5);
        tear(x, 3);
        x.list(2, 7);
        x.seed(9);
        x.tell(9);
        due(1, text(x, 0, "5"));
        due(1, text(x, 1, "6"));
        feed(x, "7");
        x.years(4);
        due(0, x.restore());
        int[] counts = {0, 0, 0, 0, 0, 0, 1, 0, 0, 0, 1};
        for (int what = 0; what < 11; what++) {
            due(counts[what], x.count(what));
        }
        due(2, x.ofList(2));
        due(8, x.law(0, 8, 0, 0));
        due(3, x.law(1, 8, 0, 0));
        due(0, x.mourner(0, 1, 2));
    }

    static void p41OfAFullOne() {
        GreatCambric x = mourners(8);
        for (int c = 0; c < 16; c++) {
            x.cell(c, 0, 99);
            tear(x, c);
        }
        feed(x, "9".repeat(50));
        for (int i = 0; i < 20; i++) {
            x.tell(i);
        }
        until(x, 9999);
        for (int c = 0; c < 16; c++) {
            x.cell(c, 0, 99);
        }
        for (int i = 0; i < 8; i++) {
            x.change(i, 0, 99);
        }
        x.image();
        due(-14, x.text(0));
        x.check();
        dryAll(x);
        for (int i = 0; i < 8; i++) {
            x.become(i, 69);
            x.change(i, 0, 0);
            x.change(i, 1, 0);
        }
        due(9999, x.restore());
        due(FULL, x.mourner(0, 0, 0));
        due(FULL, x.feed(0, 1));
        due(FULL, x.tell(0));
        due(STATE, x.years(1));
        due(1584, x.count(2));
        due(8 * 99, x.count(5));
        due(255, x.ofCell(5, 2));
        due(0, x.ofMourner(7, 0));
    }

    static void p41SheetsTraceAndWhatIsToldStay() {
        GreatCambric x = oneMourner();
        write(x, 0, 8, 1);
        x.image();
        write(x, 0, 16, 7, 8);
        x.sheet(1, 8, 0);
        x.voice(0, 1, 0);
        x.cell(16, 0, 0);
        x.restore();
        due(2, x.wets(0));
        dueWet(x, 7, 8);
        due(0, x.wets(1));
        due(2, x.count(9));
        due(11, x.trace(0));
        due(1, x.told(1));
    }

    // ---- promises 42 and 43: tell, check

    static void p42TwentyWaitAtMost() {
        GreatCambric x = new GreatCambric();
        for (int i = 1; i <= 20; i++) {
            due(i, x.tell(i));
        }
        due(FULL, x.tell(0));
        due(FULL, x.tell(0));
        due(20, x.count(8));
        due(2, x.told(4));
    }

    static void p42AnyNumber() {
        GreatCambric x = new GreatCambric();
        due(1, x.tell(LEAST));
        due(2, x.tell(GREATEST));
        due(3, x.tell(-1000000001));
        due(0, x.told(1));
    }

    static void p43NoneWaits() {
        GreatCambric x = new GreatCambric();
        due(0, x.check());
        due(0, x.check());
    }

    static void p43AllTwentyAreSo() {
        GreatCambric x = new GreatCambric();
        due(1, text(x, 1, "1"));
        x.cell(0, 0, 30);
        tear(x, 0);
        for (int i = 1; i <= 20; i++) {
            x.tell(30 - i);
        }
        due(0, x.check());
        due(0, x.count(8));
        due(30, x.count(2));
        due(0, x.count(1));
    }

    static void p43TheLastOfTwentyIsNot() {
        GreatCambric x = new GreatCambric();
        for (int i = 1; i <= 20; i++) {
            x.tell(i == 20 ? 1 : 0);
        }
        due(20, x.check());
        due(0, x.count(8));
    }

    static void p43TheFirstIsNot() {
        GreatCambric x = new GreatCambric();
        x.tell(1);
        x.tell(1);
        due(1, x.check());
        due(0, x.check());
    }

    static void p43TheFirstOfSeveral() {
        GreatCambric x = new GreatCambric();
        x.tell(0);
        x.tell(-1);
        x.tell(LEAST);
        due(2, x.check());
    }

    static void p43OneMayWaitAgainBehindIt() {
        GreatCambric x = new GreatCambric();
        for (int i = 0; i < 20; i++) {
            x.tell(7);
        }
        x.check();
        due(1, x.tell(0));
        due(0, x.check());
    }

    static void p43BeyondYear9999() {
        GreatCambric x = oneMourner();
        until(x, 9999);
        dryAll(x);
        x.change(0, 0, 34);
        x.tell(0);
        x.tell(0);
        x.tell(0);
        x.tell(4);
        due(0, x.check());
        due(9999, x.count(1));
        due(0, x.told(3));
    }

    // ---- promise 44: count

    static void p44WhatTooSmallOrLarge() {
        for (int what : outside(10)) {
            due(BEYOND, new GreatCambric().count(what));
        }
    }

    static void p44OfAFullObject() {
        GreatCambric x = mourners(8);
        for (int i = 0; i < 8; i++) {
            x.change(i, 0, 99);
        }
        for (int c = 0; c < 16; c++) {
            x.cell(c, 0, 99);
            tear(x, c);
        }
        feed(x, "9".repeat(50));
        for (int i = 0; i < 20; i++) {
            x.tell(i);
        }
        x.become(0, 60);
        x.voice(0, 3, 1);
        x.seed(LEAST);
        int[] counts = {8, 0, 1584, 16, 0xFFFF, 792, 0, 50, 20, 9, LEAST};
        for (int what = 0; what < 11; what++) {
            due(counts[what], x.count(what));
        }
    }

    static void p44ZIsAnyNumber() {
        GreatCambric x = new GreatCambric();
        x.seed(-1000000001);
        due(-1000000001, x.count(10));
        due(0, x.told(1));
    }

    static void p44TheLastYear() {
        GreatCambric x = new GreatCambric();
        until(x, 9999);
        due(9999, x.count(1));
    }

    static void p44TornCellsByThemselves() {
        for (int c = 0; c < 16; c++) {
            GreatCambric x = new GreatCambric();
            tear(x, c);
            due(1 << c, x.count(4));
            due(0, x.count(3));
            x.cell(c, 0, 1);
            due(1, x.count(3));
        }
    }

    // ---- promise 45: told

    static void p45AnotherKIsCountedToo() {
        int beyond = 0;
        GreatCambric x = new GreatCambric();
        for (int k : new int[] {0, 6, -1, -5, 256 + 1, LEAST, GREATEST, LEAST + 1}) {
            due(BEYOND, x.told(k));
            beyond++;
            due(beyond, x.told(1));
        }
        for (int k = 2; k <= 5; k++) {
            due(0, x.told(k));
        }
    }

    static void p45EachByItself() {
        GreatCambric x = oneMourner();
        tear(x, 1);
        for (int i = 0; i < 20; i++) {
            x.tell(0);
        }
        int[] errors = {x.cell(16, 0, 0), x.restore(), x.route(0, 1), x.tell(0), x.as(0, 1)};
        for (int k = 1; k <= 5; k++) {
            due(-1000000000 - k, errors[k - 1]);
            due(1, x.told(k));
        }
    }

    static void p45WhatIsNoErrorIsNotTold() {
        GreatCambric x = oneMourner();
        due(-10, x.text(0));
        due(-12, text(x, 0, "1+"));
        write(x, 0, 8, 1);
        due(0, x.judge(0));
        write(x, 0, 8, 40);
        due(-1, x.judge(0));
        x.put(0, 0, -1);
        due(0, x.wets(0));
        x.tell(5);
        due(1, x.check());
        due(0, x.game(0));
        due(0, x.sorry(0, 0, 0));
        for (int k = 1; k <= 5; k++) {
            due(0, x.told(k));
        }
    }

    static void p45Often() {
        GreatCambric x = new GreatCambric();
        for (int times = 1; times <= 300; times++) {
            due(NONE, x.restore());
        }
        due(300, x.told(2));
    }
}

/** The edges of promises 33 to 39, each by itself: VOICES, THE TRACE, SHEETS. */
public final class SheetEdgeTest extends Edges {
    private SheetEdgeTest() {
    }

    public static void main(String[] args) throws ReflectiveOperationException {
        runAll(SheetEdgeTest.class);
    }

    // ---- promise 33: voice

    static void p33MournerTooSmallOrLarge() {
        for (int mourner : outside(0)) {
            due(BEYOND, oneMourner().voice(mourner, 0, 0));
        }
        due(BEYOND, mourners(8).voice(8, 0, 0));
    }

    static void p33ActTooSmallOrLarge() {
        for (int act : outside(3)) {
            due(BEYOND, oneMourner().voice(0, act, 0));
        }
    }

    /** A voice of the number 7, so that n is told from m. */
    private static int voice(int km, int act, int x) {
        GreatCambric c = mourners(7);
        due(7, c.mourner(km, 0, 0));
        return c.voice(7, act, x);
    }

    static void p33IntsGoRound() {
        due(LEAST + 6, voice(0, 0, GREATEST));
        due(2 * (LEAST + 6), voice(0, 1, GREATEST));
        due(GREATEST - 4, voice(5, 2, LEAST));
        due(3 * (LEAST + 6), voice(10, 0, GREATEST));
        due(LEAST, voice(30, 2, LEAST));
        // blows(x + 1) of a MIDDY: (LEAST + 7) * 2, less folds(1), which is 1 - 9.
        due(14 + 8, voice(59, 1, GREATEST));
    }

    static void p33AnswersLikeErrorsAreNone() {
        GreatCambric x = oneMourner();
        due(-1000000001, x.voice(0, 0, -1000000001));
        due(-1000000005, x.voice(0, 2, -1000000005));
        due(LEAST, x.voice(0, 0, LEAST));
        for (int k = 1; k <= 5; k++) {
            due(0, x.told(k));
        }
        due(1, x.count(9));
    }

    static void p33WithX0() {
        due(7, voice(5, 0, 0));
        due(14, voice(5, 1, 0));
        due(-5, voice(5, 2, 0));
        due(14 ^ -5, voice(5, 3, 0));
    }

    /** Number 7, m 5, x 1, by KIND and act. */
    static void p33EachKindAndAct() {
        int[][] due = {
            {8, 16, -4, 16 ^ -4},
            {24, 48, -4, 48 ^ -4},
            {8, 16 + 4, -4, 20 ^ -4},
            {8, 16, 4, 16 ^ 4},
            {24, 48, -4, (48 ^ -4) - 27},
            {8, 18 + 4, -4, 22 ^ -4},
            {8, 16, 4 ^ 7, 16 - (16 ^ 3)}
        };
        for (int kind = 0; kind < 7; kind++) {
            for (int act = 0; act < 4; act++) {
                due(kind + ", " + act, due[kind][act], voice(10 * kind + 5, act, 1));
            }
        }
    }

    // ---- promise 34: trace

    static void p34AheadOfAnyVoice() {
        for (int i : new int[] {0, 1, -1, 39, 40, LEAST, GREATEST}) {
            due(NONE, mourners(8).trace(i));
        }
    }

    static void p34TooSmallOrLarge() {
        GreatCambric x = oneMourner();
        x.voice(0, 3, 1);
        due(13, x.trace(0));
        due(12, x.trace(3));
        for (int i : outside(3)) {
            due(NONE, x.trace(i));
        }
        due(NONE, x.trace(40));
        due(0, x.told(1));
    }

    private static void traced(int km, int act, int... bodies) {
        GreatCambric x = new GreatCambric();
        x.mourner(km, 0, 0);
        x.voice(0, act, 1);
        due(km + ", " + act, bodies.length, x.count(9));
        for (int i = 0; i < bodies.length; i++) {
            due(km + ", " + act, bodies[i], x.trace(i));
        }
        due(NONE, x.trace(bodies.length));
    }

    static void p34EachKindAndAct() {
        traced(0, 0, 10);
        traced(0, 1, 11, 10);
        traced(0, 2, 12);
        traced(0, 3, 13, 11, 10, 12);
        traced(10, 0, 20, 10);
        traced(10, 1, 11, 20, 10);
        traced(10, 2, 12);
        traced(10, 3, 13, 11, 20, 10, 12);
        traced(20, 0, 10);
        traced(20, 1, 30, 11, 10, 12);
        traced(20, 2, 12);
        traced(20, 3, 13, 30, 11, 10, 12, 12);
        traced(30, 0, 10);
        traced(30, 1, 11, 10);
        traced(30, 2, 40, 12);
        traced(30, 3, 13, 11, 10, 40, 12);
        traced(40, 0, 20, 10);
        traced(40, 1, 11, 20, 10);
        traced(40, 2, 12);
        traced(40, 3, 50, 13, 11, 20, 10, 12, 20, 10);
        traced(50, 0, 10);
        traced(50, 1, 60, 30, 11, 10, 12);
        traced(50, 2, 12);
        traced(50, 3, 13, 60, 30, 11, 10, 12, 12);
        traced(60, 0, 10);
        traced(60, 1, 11, 10);
        traced(60, 2, 70, 40, 12);
        traced(60, 3, 71, 11, 10, 13, 11, 10, 70, 40, 12);
    }

    static void p34OfTheLatestVoiceAlone() {
        GreatCambric x = oneMourner();
        x.voice(0, 3, 1);
        x.voice(0, 2, 1);
        due(12, x.trace(0));
        due(NONE, x.trace(1));
        due(1, x.count(9));
    }

    static void p34AVoiceThatIsRefusedLeavesIt() {
        GreatCambric x = oneMourner();
        x.voice(0, 1, 1);
        due(BEYOND, x.voice(0, 4, 1));
        due(BEYOND, x.voice(1, 0, 1));
        due(2, x.count(9));
        due(11, x.trace(0));
        due(10, x.trace(1));
    }

    // ---- promise 35: sheet

    static void p35SheetTooSmallOrLarge() {
        for (int sheet : outside(3)) {
            due(BEYOND, new GreatCambric().sheet(sheet, 8, 1));
            due(BEYOND, new GreatCambric().sheet(sheet, 0, 0));
        }
    }

    static void p35OtherBits() {
        for (int bits : new int[] {-1, 1, 4, 7, 9, 15, 17, 24, 31, 33, 64, -8, -16, -32, 8 + 256, LEAST, GREATEST}) {
            due(BEYOND, new GreatCambric().sheet(0, bits, 1));
        }
    }

    static void p35FewerThan0Numbers() {
        for (int n : new int[] {-1, -40, LEAST, LEAST + 1}) {
            due(STATE, new GreatCambric().sheet(0, 8, n));
            due(STATE, new GreatCambric().sheet(3, 32, n));
        }
    }

    static void p35NoneAndFortyNumbers() {
        for (int bits = 8; bits <= 32; bits *= 2) {
            GreatCambric x = new GreatCambric();
            due(1, x.sheet(0, bits, 0));
            due(BEYOND, x.put(0, 0, 1));
            due(0, x.wets(0));
            due(1, x.sheet(0, bits, 40));
            due(1, x.put(0, 39, 1));
            due(BEYOND, x.put(0, 40, 1));
        }
    }

    static void p35TooManyNumbers() {
        for (int n : new int[] {41, 100, 256, 65536, GREATEST}) {
            due(BEYOND, new GreatCambric().sheet(0, 8, n));
        }
    }

    static void p35BeyondOfSheetAndBitsIsAskedAheadOfState() {
        GreatCambric x = new GreatCambric();
        due(BEYOND, x.sheet(4, 8, -1));
        due(BEYOND, x.sheet(0, 9, -1));
        due(BEYOND, x.sheet(-1, 0, -1));
        due(0, x.told(3));
        due(STATE, x.sheet(0, 16, -1));
        due(BEYOND, x.sheet(0, 16, 41));
        due(1, x.told(3));
    }

    static void p35MissingWhateverN() {
        for (int n : new int[] {0, 1, -1, 41, LEAST, GREATEST}) {
            GreatCambric x = new GreatCambric();
            write(x, 2, 8, 5);
            due(1, x.sheet(2, 0, n));
            due(NONE, x.wets(2));
            due(1, x.sheet(2, 0, n));
        }
    }

    static void p35OneThatIsRefusedStays() {
        GreatCambric x = new GreatCambric();
        write(x, 1, 8, 5, 6);
        due(STATE, x.sheet(1, 16, -1));
        due(BEYOND, x.sheet(1, 16, 41));
        due(BEYOND, x.sheet(1, 9, 1));
        due(2, x.wets(1));
        dueWet(x, 5, 6);
        due(2, x.move(1, 0, 1, 0, 2));
    }

    static void p35BegunAnewItIsAll0() {
        GreatCambric x = new GreatCambric();
        x.sheet(1, 8, 40);
        for (int i = 0; i < 40; i++) {
            x.put(1, i, i + 1);
        }
        due(1, x.sheet(1, 8, 40));
        x.cell(0, 0, 9);
        x.cell(15, 0, 9);
        due(16, x.wets(1));
        due(0, x.count(2));
        due(16, x.move(1, 24, 1, 0, 16));
        due(16, x.wets(1));
        due(0, x.count(2));
    }

    static void p35MissingAndBegunAgainItIsAll0() {
        GreatCambric x = new GreatCambric();
        write(x, 0, 32, 5, 6);
        x.sheet(0, 0, 0);
        x.sheet(0, 32, 2);
        due(2, x.wets(0));
        due(0, x.count(2));
    }

    static void p35EachByItself() {
        GreatCambric x = new GreatCambric();
        for (int sheet = 0; sheet < 4; sheet++) {
            write(x, sheet, 8, sheet + 1);
        }
        for (int sheet = 0; sheet < 4; sheet++) {
            due(1, x.wets(sheet));
            due(sheet + 1, x.ofCell(0, 0));
        }
    }

    // ---- promise 36: put

    static void p36SheetTooSmallOrLarge() {
        for (int sheet : outside(3)) {
            due(BEYOND, new GreatCambric().put(sheet, 0, 0));
        }
    }

    static void p36AMissingSheet() {
        for (int sheet = 0; sheet < 4; sheet++) {
            due(NONE, new GreatCambric().put(sheet, 0, 0));
            due(NONE, new GreatCambric().put(sheet, -1, 0));
        }
    }

    static void p36NumberTooSmallOrLarge() {
        for (int i : outside(2)) {
            GreatCambric x = new GreatCambric();
            write(x, 0, 8, 1, 2, 3);
            due(BEYOND, x.put(0, i, 9));
            due(3, x.wets(0));
            dueWet(x, 1, 2, 3);
        }
    }

    static void p36AnEmptySheetHasNone() {
        GreatCambric x = new GreatCambric();
        write(x, 0, 8);
        due(BEYOND, x.put(0, 0, 0));
    }

    private static void kept(int bits, int v, int due) {
        GreatCambric x = new GreatCambric();
        write(x, 0, bits, v);
        due(bits + " bits of " + v, due < 0 ? 0 : 1, x.wets(0));
        due(bits + " bits of " + v, Math.max(0, due), x.ofCell(0, 0));
    }

    /** -1: not 0 to 99. */
    static void p36TheLowest8Bits() {
        kept(8, 99, 99);
        kept(8, 100, -1);
        kept(8, 127, -1);
        kept(8, 128, -1);
        kept(8, 255, -1);
        kept(8, -1, -1);
        kept(8, 256, 0);
        kept(8, 256 + 99, 99);
        kept(8, -256, 0);
        kept(8, -256 + 7, 7);
        kept(8, LEAST, 0);
        kept(8, GREATEST, -1);
        kept(8, 65536 + 256 + 7, 7);
    }

    static void p36TheLowest16Bits() {
        kept(16, 99, 99);
        kept(16, 256 + 7, -1);
        kept(16, 32767, -1);
        kept(16, 32768, -1);
        kept(16, 65535, -1);
        kept(16, -1, -1);
        kept(16, 65536, 0);
        kept(16, 65536 + 99, 99);
        kept(16, -65536 + 7, 7);
        kept(16, LEAST, 0);
        kept(16, LEAST + 8, 8);
        kept(16, GREATEST, -1);
    }

    static void p36All32Bits() {
        kept(32, 99, 99);
        kept(32, 65536, -1);
        kept(32, 65536 + 7, -1);
        kept(32, -1, -1);
        kept(32, LEAST, -1);
        kept(32, GREATEST, -1);
        kept(32, 1 << 24, -1);
    }

    // ---- promise 37: move

    private static GreatCambric sheets() {
        GreatCambric x = new GreatCambric();
        write(x, 0, 8, 1, 2, 3, 4, 5);
        write(x, 1, 8, 6, 7, 8);
        write(x, 2, 16, 9, 10);
        return x;
    }

    private static void dueSheet(GreatCambric x, int sheet, int... numbers) {
        dryAll(x);
        due(numbers.length, x.wets(sheet));
        dueWet(x, numbers);
    }

    static void p37SheetTooSmallOrLarge() {
        for (int sheet : outside(3)) {
            due(BEYOND, sheets().move(sheet, 0, 0, 0, 0));
            due(BEYOND, sheets().move(0, 0, sheet, 0, 0));
            due(BEYOND, sheets().move(sheet, 0, 3, 0, 0));
            due(BEYOND, sheets().move(3, 0, sheet, 0, 0));
        }
    }

    static void p37OneIsMissing() {
        due(NONE, sheets().move(3, 0, 0, 0, 0));
        due(NONE, sheets().move(0, 0, 3, 0, 0));
        due(NONE, sheets().move(3, 0, 3, 0, 0));
        due(NONE, sheets().move(2, 0, 3, 0, -1));
    }

    static void p37UnlikeBits() {
        GreatCambric x = new GreatCambric();
        for (int s = 0; s < 3; s++) {
            write(x, s, 8 << s, 1, 2);
        }
        for (int from = 0; from < 3; from++) {
            for (int to = 0; to < 3; to++) {
                due(from + " to " + to, from == to ? 1 : KIND, x.move(from, 0, to, 1, 1));
            }
        }
    }

    static void p37KindIsAskedAheadOfBeyondOfNumbers() {
        due(KIND, sheets().move(0, -1, 2, -1, -1));
        due(KIND, sheets().move(0, 9, 2, 9, 9));
        due(KIND, sheets().move(0, 0, 2, 0, 0));
    }

    static void p37NumbersBelow0() {
        for (int v : new int[] {-1, LEAST, LEAST + 1}) {
            due(BEYOND, sheets().move(0, v, 1, 0, 1));
            due(BEYOND, sheets().move(0, 0, 1, v, 1));
            due(BEYOND, sheets().move(0, 0, 1, 0, v));
            due(BEYOND, sheets().move(0, v, 1, 0, 0));
            due(BEYOND, sheets().move(0, 0, 1, v, 0));
        }
        due(BEYOND, sheets().move(0, 1, 1, 1, -1));
        due(BEYOND, sheets().move(0, -1, 0, -1, 2));
    }

    static void p37NumbersThatDoNotStandThere() {
        due(BEYOND, sheets().move(0, 0, 1, 0, 4));
        due(BEYOND, sheets().move(1, 0, 0, 0, 4));
        due(BEYOND, sheets().move(0, 3, 1, 0, 3));
        due(BEYOND, sheets().move(0, 0, 1, 1, 3));
        due(BEYOND, sheets().move(0, 5, 1, 0, 1));
        due(BEYOND, sheets().move(0, 0, 1, 3, 1));
        due(BEYOND, sheets().move(0, 0, 0, 1, 5));
        due(BEYOND, sheets().move(0, 1, 0, 0, 5));
    }

    static void p37SumsThatWouldGoRound() {
        due(BEYOND, sheets().move(0, GREATEST, 1, 0, 1));
        due(BEYOND, sheets().move(0, 0, 1, GREATEST, 1));
        due(BEYOND, sheets().move(0, 1, 1, 0, GREATEST));
        due(BEYOND, sheets().move(0, 0, 1, 1, GREATEST));
        due(BEYOND, sheets().move(0, GREATEST, 1, GREATEST, GREATEST));
        due(BEYOND, sheets().move(0, GREATEST, 0, GREATEST, 3));
    }

    static void p37NoneAtTheEnd() {
        GreatCambric x = sheets();
        due(0, x.move(0, 5, 1, 3, 0));
        due(0, x.move(0, 0, 1, 0, 0));
        due(BEYOND, x.move(0, 6, 1, 0, 0));
        due(BEYOND, x.move(0, 0, 1, 4, 0));
        dueSheet(x, 1, 6, 7, 8);
        write(x, 3, 8);
        due(0, x.move(3, 0, 3, 0, 0));
        due(0, x.move(0, 5, 3, 0, 0));
        due(BEYOND, x.move(0, 0, 3, 0, 1));
        due(BEYOND, x.move(3, 0, 0, 0, 1));
    }

    static void p37AllOfOne() {
        GreatCambric x = sheets();
        due(3, x.move(1, 0, 0, 2, 3));
        dueSheet(x, 0, 1, 2, 6, 7, 8);
        dueSheet(x, 1, 6, 7, 8);
        due(5, x.move(0, 0, 0, 0, 5));
        dueSheet(x, 0, 1, 2, 6, 7, 8);
    }

    static void p37UntilTheLastNumber() {
        GreatCambric x = sheets();
        due(2, x.move(0, 3, 1, 1, 2));
        dueSheet(x, 1, 6, 4, 5);
        due(1, x.move(1, 0, 0, 4, 1));
        dueSheet(x, 0, 1, 2, 3, 4, 6);
    }

    static void p37OntoItselfAsTheyAllWere() {
        GreatCambric x = sheets();
        due(4, x.move(0, 0, 0, 1, 4));
        dueSheet(x, 0, 1, 1, 2, 3, 4);
        GreatCambric y = sheets();
        due(4, y.move(0, 1, 0, 0, 4));
        dueSheet(y, 0, 2, 3, 4, 5, 5);
        GreatCambric z = sheets();
        due(3, z.move(0, 0, 0, 2, 3));
        dueSheet(z, 0, 1, 2, 1, 2, 3);
    }

    static void p37OneThatIsRefusedMovesNone() {
        GreatCambric x = sheets();
        due(BEYOND, x.move(0, 0, 1, 1, 3));
        due(BEYOND, x.move(0, 3, 1, 0, 3));
        due(KIND, x.move(2, 0, 1, 0, 1));
        dueSheet(x, 0, 1, 2, 3, 4, 5);
        dueSheet(x, 1, 6, 7, 8);
        dueSheet(x, 2, 9, 10);
    }

    // ---- promise 38: wets

    static void p38SheetTooSmallOrLarge() {
        for (int sheet : outside(3)) {
            due(BEYOND, new GreatCambric().wets(sheet));
        }
    }

    static void p38AMissingSheet() {
        for (int sheet = 0; sheet < 4; sheet++) {
            due(NONE, new GreatCambric().wets(sheet));
        }
    }

    static void p38AnEmptySheet() {
        GreatCambric x = new GreatCambric();
        x.cell(0, 0, 5);
        write(x, 0, 8);
        due(0, x.wets(0));
        due(5, x.ofCell(0, 0));
    }

    static void p38LeastAndMostWet() {
        GreatCambric x = new GreatCambric();
        x.cell(1, 0, 5);
        write(x, 0, 8, 99, 0, 1);
        due(3, x.wets(0));
        dueWet(x, 99, 0, 1);
    }

    static void p38UpToTheFirstThatIsNot0To99() {
        for (int v : new int[] {100, -1, 127, -128}) {
            GreatCambric x = new GreatCambric();
            for (int c = 0; c < 16; c++) {
                x.cell(c, 0, 50);
            }
            write(x, 0, 8, 1, 2, v, 4);
            due(2, x.wets(0));
            due(1, x.ofCell(0, 0));
            due(2, x.ofCell(1, 0));
            due(50, x.ofCell(2, 0));
            due(50, x.ofCell(3, 0));
            x.put(0, 0, v);
            due(0, x.wets(0));
            due(1, x.ofCell(0, 0));
            due(0, x.told(1));
        }
    }

    static void p38AsManyAsThereAreCells() {
        int[] most = {15, 16, 17, 40};
        for (int n : most) {
            GreatCambric x = new GreatCambric();
            x.sheet(0, 16, n);
            for (int i = 0; i < n; i++) {
                x.put(0, i, i + 1);
            }
            x.cell(15, 0, 50);
            due(Math.min(16, n), x.wets(0));
            due(15, x.ofCell(14, 0));
            due(n == 15 ? 50 : 16, x.ofCell(15, 0));
        }
    }

    static void p38WhatIsWrongBehindTheLastCellIsNotLookedAt() {
        GreatCambric x = new GreatCambric();
        x.sheet(0, 32, 17);
        x.put(0, 16, 100);
        due(16, x.wets(0));
        x.put(0, 15, 100);
        due(15, x.wets(0));
    }

    // ---- promise 39: judge

    static void p39SheetTooSmallOrLarge() {
        for (int sheet : outside(3)) {
            due(BEYOND, new GreatCambric().judge(sheet));
        }
    }

    static void p39AMissingSheet() {
        for (int sheet = 0; sheet < 4; sheet++) {
            due(NONE, new GreatCambric().judge(sheet));
        }
    }

    static void p39NoNumbersAndNoMourners() {
        GreatCambric x = new GreatCambric();
        write(x, 0, 8);
        due(-1, x.judge(0));
        write(x, 0, 8, 0);
        due(0, x.judge(0));
        GreatCambric y = oneMourner();
        write(y, 0, 8);
        due(0, y.judge(0));
    }

    static void p39OneLacks() {
        GreatCambric x = mourners(8);
        write(x, 0, 8, 40, 40, 40, 40, 40, 40, 40);
        due(7, x.judge(0));
    }

    static void p39OneIsTooMany() {
        GreatCambric x = mourners(7);
        write(x, 0, 8, 40, 40, 40, 40, 40, 40, 40, 40);
        due(7, x.judge(0));
        GreatCambric y = mourners(8);
        write(y, 0, 8, 40, 40, 40, 40, 40, 40, 40, 40, 0);
        due(8, y.judge(0));
        x.sheet(0, 8, 40);
        due(0, x.judge(0));
    }

    static void p39AllAre() {
        for (int bits = 8; bits <= 32; bits *= 2) {
            GreatCambric x = mourners(8);
            x.change(0, 0, 0);
            x.change(7, 0, 99);
            write(x, 0, bits, 0, 40, 40, 40, 40, 40, 40, 99);
            due(-1, x.judge(0));
            for (int k = 1; k <= 5; k++) {
                due(0, x.told(k));
            }
        }
    }

    static void p39TheFirstOfSeveral() {
        GreatCambric x = mourners(3);
        write(x, 0, 8, 40, 41, 39);
        due(1, x.judge(0));
        write(x, 0, 8, 41, 41);
        due(0, x.judge(0));
        write(x, 0, 8, 40, 40, 39);
        due(2, x.judge(0));
        write(x, 0, 32, 40, 40, 256 + 40);
        due(2, x.judge(0));
        write(x, 0, 8, 40, 40, -40);
        due(2, x.judge(0));
        due(40, x.ofMourner(2, 2));
    }
}

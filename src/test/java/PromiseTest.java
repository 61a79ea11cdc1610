/** Each promise of the document by itself: ordinary inputs, its edges, wrong inputs; answers worked out by hand. */
public final class PromiseTest {
    private static final int BEYOND = Due.BEYOND;
    private static final int NONE = Due.NONE;
    private static final int STATE = Due.STATE;
    private static final int FULL = Due.FULL;
    private static final int KIND = Due.KIND;

    private PromiseTest() {
    }

    private static void due(long want, long got) {
        Due.due(want, got);
    }

    private static void feed(GreatCambric x, String t) {
        int there = x.count(7);
        for (int i = 0; i < t.length(); i += 8) {
            int n = Math.min(8, t.length() - i);
            long word = 0;
            for (int k = 0; k < n; k++) {
                word |= (long) t.charAt(i + k) << 8 * k;
            }
            due(there + i + n, x.feed(word, n));
        }
    }

    private static int text(GreatCambric x, int use, String t) {
        feed(x, t);
        return x.text(use);
    }

    /** A SHEET 0 with these numbers. */
    private static void write(GreatCambric x, int bits, int... numbers) {
        due(1, x.sheet(0, bits, numbers.length));
        for (int i = 0; i < numbers.length; i++) {
            due(1, x.put(0, i, numbers[i]));
        }
    }

    /** One MOURNER of KIND 0 with SORROW 40 AT 5, who comes by in YEARS 0, 6, ..: it weeps 11, and is eased by 5. */
    private static GreatCambric oneMourner() {
        GreatCambric x = new GreatCambric();
        due(0, x.mourner(0, 40, 5));
        return x;
    }

    public static void main(String[] args) {
        newObject();
        cell();
        ofCell();
        list();
        ofList();
        mourner();
        ofMourner();
        change();
        become();
        as();
        feed();
        text();
        law();
        textsInYears();
        years();
        yearsSeepAndDry();
        loose();
        then();
        all();
        dry();
        eased();
        cellFor();
        comesFor();
        kindFor();
        folded();
        topFor();
        route();
        parts();
        mends();
        game();
        which();
        sorry();
        odds();
        seed();
        voice();
        trace();
        sheet();
        put();
        move();
        wets();
        judge();
        image();
        restore();
        tell();
        check();
        count();
        told();
        Due.end();
    }

    private static void newObject() {
        Due.of("promise 1");
        GreatCambric x = new GreatCambric();
        int[] counts = {0, 0, 0, 0, 0, 0, 1, 0, 0, 0, 1};
        for (int i = 0; i < counts.length; i++) {
            due(counts[i], x.count(i));
        }
        for (int c = 0; c < 16; c++) {
            due(0, x.ofCell(c, 0));
            due(0, x.ofCell(c, 1));
            due(0, x.ofCell(c, 2));
        }
        for (int p = 0; p < 6; p++) {
            due(p, x.ofList(p));
        }
        for (int k = 1; k <= 5; k++) {
            due(0, x.told(k));
        }
        due(BEYOND, x.ofMourner(0, 0));
        for (int s = 0; s < 4; s++) {
            due(NONE, x.wets(s));
        }
        due(NONE, x.trace(0));
        due(NONE, x.restore());
        due(77, x.law(0, 77, 1, 1));
        due(3, x.law(1, 77, 1, 1));
        due(0, x.check());
    }

    private static void cell() {
        Due.of("promise 2");
        GreatCambric x = new GreatCambric();
        due(0, x.cell(0, 0, 99));
        due(99, x.cell(0, 0, 7));
        due(0, x.cell(15, 1, 1));
        due(1, x.cell(15, 1, 1));
        due(1, x.cell(15, 1, 0));
        due(0, x.cell(15, 1, 0));
        due(BEYOND, x.cell(-1, 0, 0));
        due(BEYOND, x.cell(16, 0, 0));
        due(BEYOND, x.cell(0, -1, 0));
        due(BEYOND, x.cell(0, 2, 0));
        due(BEYOND, x.cell(0, 0, -1));
        due(BEYOND, x.cell(0, 0, 100));
        due(BEYOND, x.cell(0, 1, -1));
        due(BEYOND, x.cell(0, 1, 2));
        due(BEYOND, x.cell(Integer.MIN_VALUE, Integer.MAX_VALUE, Integer.MIN_VALUE));
        due(7, x.ofCell(0, 0));
        due(0, x.ofCell(0, 1));
    }

    private static void ofCell() {
        Due.of("promise 3");
        GreatCambric x = new GreatCambric();
        x.mourner(0, 1, 6);
        x.mourner(0, 1, 5);
        x.mourner(0, 1, 6);
        due(5, x.ofCell(6, 2));
        due(2, x.ofCell(5, 2));
        due(0, x.ofCell(0, 2));
        due(4, x.ofCell(5, 3));
        due(2, x.ofCell(0, 3));
        due(3, x.ofCell(2, 3));
        due(2, x.ofCell(15, 3));
        // 3 and 4 stand beside one another by number only.
        x.cell(4, 0, 1);
        due(2, x.ofCell(3, 3));
        x.cell(1, 0, 1);
        due(2, x.ofCell(5, 3));
        due(0, x.ofCell(0, 3));
        x.cell(1, 1, 1);
        due(1, x.ofCell(0, 3));
        due(1, x.ofCell(1, 0));
        due(1, x.ofCell(1, 1));
        due(BEYOND, x.ofCell(0, 4));
        due(BEYOND, x.ofCell(0, -1));
        due(BEYOND, x.ofCell(-1, 0));
        due(BEYOND, x.ofCell(16, 0));
    }

    private static void list() {
        Due.of("promise 4");
        GreatCambric x = new GreatCambric();
        due(5, x.list(5, 7));
        due(7, x.list(5, 0));
        due(0, x.list(0, 0));
        due(BEYOND, x.list(-1, 0));
        due(BEYOND, x.list(6, 0));
        due(BEYOND, x.list(0, -1));
        due(BEYOND, x.list(0, 8));
        due(0, x.ofList(0));
    }

    private static void ofList() {
        Due.of("promise 5");
        GreatCambric x = new GreatCambric();
        x.list(3, 6);
        due(6, x.ofList(3));
        due(2, x.ofList(2));
        due(BEYOND, x.ofList(-1));
        due(BEYOND, x.ofList(6));
    }

    private static void mourner() {
        Due.of("promise 6");
        GreatCambric x = new GreatCambric();
        due(BEYOND, x.mourner(-1, 0, 0));
        due(BEYOND, x.mourner(70, 0, 0));
        due(BEYOND, x.mourner(0, -1, 0));
        due(BEYOND, x.mourner(0, 100, 0));
        due(BEYOND, x.mourner(0, 0, -1));
        due(BEYOND, x.mourner(0, 0, 16));
        due(0, x.count(0));
        for (int i = 0; i < 8; i++) {
            due(i, x.mourner(62 + i, 99 - i, 15 - i));
        }
        due(BEYOND, x.mourner(70, 0, 0));
        due(FULL, x.mourner(0, 0, 0));
        due(8, x.count(0));
        due(6, x.ofMourner(7, 0));
        due(9, x.ofMourner(7, 1));
        due(92, x.ofMourner(7, 2));
        due(8, x.ofMourner(7, 3));
    }

    private static void ofMourner() {
        Due.of("promise 7");
        GreatCambric x = new GreatCambric();
        int[] kms = {5, 15, 25, 35, 45, 55, 65};
        for (int km : kms) {
            x.mourner(km, 60, km % 16);
        }
        int[] weeps = {16, 32, 13, 16, 42, 18, 11};
        int[] eases = {8, 16, 9, 8, 0, 12, 10};
        int[] grieves = {2, 5, 2, 1, 6, 2, 1};
        for (int i = 0; i < 7; i++) {
            due(i, x.ofMourner(i, 0));
            due(5, x.ofMourner(i, 1));
            due(60, x.ofMourner(i, 2));
            due((10 * i + 5) % 16, x.ofMourner(i, 3));
            due(weeps[i], x.ofMourner(i, 4));
            due(eases[i], x.ofMourner(i, 5));
            due(grieves[i], x.ofMourner(i, 6));
        }
        // SORROW 49 is below 50, 50 isn't.
        int[] weepsBy7 = {2, 4, 0, 0, 14, 5, 0};
        int[] weepsBy49 = {13, 26, 10, 0, 36, 15, 0};
        int[] weepsBy50 = {13, 26, 10, 13, 36, 15, 8};
        for (int i = 0; i < 7; i++) {
            x.change(i, 0, 7);
            due(weepsBy7[i], x.ofMourner(i, 4));
            x.change(i, 0, 49);
            due(weepsBy49[i], x.ofMourner(i, 4));
            x.change(i, 0, 50);
            due(weepsBy50[i], x.ofMourner(i, 4));
        }
        x.years(1);
        due(0, x.ofMourner(5, 6));
        due(2, x.ofMourner(2, 6));
        x.years(1);
        due(2, x.ofMourner(5, 6));
        x.years(1);
        due(0, x.ofMourner(5, 6));
        int[] thirds = {5, 5, 5, 6, 6, 6, 7, 7, 7, 8};
        for (int m = 0; m < 10; m++) {
            x.become(6, 40 + m);
            due(thirds[m], x.ofMourner(6, 6));
        }
        due(BEYOND, x.ofMourner(7, 0));
        due(BEYOND, x.ofMourner(-1, 0));
        due(BEYOND, x.ofMourner(0, 7));
        due(BEYOND, x.ofMourner(0, -1));
        // What the TEXT gives is eased, not what the KIND weeps; y is the rest of YEAR by 8.
        due(1, text(x, 0, "s+y"));
        x.change(1, 0, 55);
        due(58, x.ofMourner(1, 4));
        due(29, x.ofMourner(1, 5));
        x.years(5);
        x.change(1, 0, 55);
        due(55, x.ofMourner(1, 4));
        x.years(1);
        x.change(1, 0, 55);
        due(56, x.ofMourner(1, 4));
        // y is the rest of YEAR 9 where it is dried, too.
        due(1, text(x, 1, "y"));
        x.sheet(0, 8, 16);
        x.wets(0);
        x.cell(0, 0, 9);
        due(8, x.then(1, 0));
    }

    private static void change() {
        Due.of("promise 8");
        GreatCambric x = oneMourner();
        due(40, x.change(0, 0, 99));
        due(99, x.change(0, 0, 0));
        due(5, x.change(0, 1, 15));
        due(15, x.change(0, 1, 0));
        due(BEYOND, x.change(0, 0, 100));
        due(BEYOND, x.change(0, 0, -1));
        due(BEYOND, x.change(0, 1, 16));
        due(BEYOND, x.change(0, 1, -1));
        due(BEYOND, x.change(0, 2, 0));
        due(BEYOND, x.change(0, -1, 0));
        due(BEYOND, x.change(1, 0, 0));
        due(BEYOND, x.change(-1, 0, 0));
        due(0, x.ofMourner(0, 2));
        due(0, x.ofMourner(0, 3));
    }

    private static void become() {
        Due.of("promise 9");
        GreatCambric x = oneMourner();
        due(0, x.become(0, 69));
        due(6, x.become(0, 43));
        due(BEYOND, x.become(0, 70));
        due(BEYOND, x.become(0, -1));
        due(BEYOND, x.become(1, 0));
        due(BEYOND, x.become(-1, 0));
        due(4, x.ofMourner(0, 0));
        due(3, x.ofMourner(0, 1));
        due(40, x.ofMourner(0, 2));
        due(5, x.ofMourner(0, 3));
    }

    private static void as() {
        Due.of("promise 10");
        GreatCambric x = oneMourner();
        int[][] lines = {{0}, {1, 0}, {2, 0}, {3, 0}, {4, 1, 0}, {5, 2, 0}, {6, 3, 0}};
        for (int kind = 0; kind < 7; kind++) {
            x.become(0, 10 * kind + 8);
            for (int as = 0; as < 7; as++) {
                boolean is = false;
                for (int one : lines[kind]) {
                    is |= one == as;
                }
                due(is ? 8 : KIND, x.as(0, as));
            }
        }
        due(BEYOND, x.as(0, 7));
        due(BEYOND, x.as(0, -1));
        due(BEYOND, x.as(1, 0));
        due(BEYOND, x.as(-1, 9));
    }

    private static void feed() {
        Due.of("promise 11");
        GreatCambric x = new GreatCambric();
        due(BEYOND, x.feed(0, 0));
        due(BEYOND, x.feed(0, 9));
        due(BEYOND, x.feed(0, -1));
        // The lowest first; what stands above the n lowest doesn't come.
        due(3, x.feed(0x7732313077L >> 8, 3));
        due(1, x.text(0));
        due(12, x.law(0, 0, 0, 0));
        due(8, x.feed(0x3130303030303030L, 8));
        due(16, x.feed(-1L, 8));
        for (int i = 3; i <= 6; i++) {
            due(8 * i, x.feed(0, 8));
        }
        due(49, x.feed(0, 1));
        due(FULL, x.feed(0, 2));
        due(BEYOND, x.feed(0, 9));
        due(49, x.count(7));
        due(50, x.feed(0, 1));
        due(FULL, x.feed(0, 1));
        due(50, x.count(7));
    }

    private static void text() {
        Due.of("promise 12");
        GreatCambric x = new GreatCambric();
        due(-10, x.text(0));
        String[] good = {
            "w", "0", "0000", "9999", "s", "y", "!w", "!!!!!w", "(((((w)))))", "!(!(!w))", "!w+!w", "(w)-(s)", "1<2", "1=2",
            "1>2", "1<2&2<3|w", "1+2-3+4", "1*2/3%4", "w|s|y", "w&s&y", "(1<2)<3", "(1<2<3)", "1+!(2)*3"
        };
        int[] faults = {
            -1, -1, -1, -1, -1, -1, -1, -1, -1, -1, -1, -1, -1, -1, -1, -1, -1, -1, -1, -1, -1, 4, -1
        };
        for (int i = 0; i < good.length; i++) {
            Due.due(good[i], faults[i] < 0 ? 1 : -10 - faults[i], text(x, 0, good[i]));
            due(0, x.count(7));
        }
        String[] bad = {
            "w+", "(", "(w", "!", "1<", "w|", "w&", "((((((", "!!!!!!w", "!(!(!(w", "12345", "w w", "1<2=3", "n", "W", "-1",
            "+1", "w)", "()", "w(", "1w", "ws", "w||s", "w&&s", "!", "w!", "(((((w))))", "\u00ff", "w\u0000"
        };
        int[] at = {
            2, 1, 2, 1, 2, 2, 2, 5, 5, 5, 4, 1, 3, 0, 0, 0, 0, 1, 1, 1, 1, 1, 2, 2, 1, 1, 10, 0, 1
        };
        x = new GreatCambric();
        due(1, text(x, 0, "41"));
        for (int i = 0; i < bad.length; i++) {
            Due.due(bad[i], -10 - at[i], text(x, 0, bad[i]));
            due(0, x.count(7));
            due(41, x.law(0, 0, 0, 0));
        }
        // n is a NAME of the USE 1, s isn't.
        due(1, text(x, 1, "w+n+y"));
        due(-10 - 2, text(x, 1, "w+s"));
        feed(x, "w");
        due(BEYOND, x.text(2));
        due(BEYOND, x.text(-1));
        due(1, x.count(7));
        due(1, x.text(1));
        // 50 bytes are a TEXT, too, or end too early.
        String nines = "9+9+9+9+9+9+9+9+9+9+9+9+9+9+9+9+9+9+9+9+9+9+9+9+";
        due(1, text(x, 0, nines + "w"));
        due(-10 - 50, text(x, 0, nines + "w+"));
    }

    private static void law() {
        Due.of("promise 13");
        GreatCambric x = new GreatCambric();
        due(0, x.law(0, 0, 5, 5));
        due(99, x.law(0, 99, 5, 5));
        due(99, x.law(0, 100, 5, 5));
        due(0, x.law(0, -1000000001, 5, 5));
        due(3, x.law(1, 0, 0, 0));
        due(3, x.law(1, -5, 100, 0));
        due(BEYOND, x.law(2, 0, 0, 0));
        due(BEYOND, x.law(-1, 0, 0, 0));
        String[] texts = {
            "w-s-y", "w/s*y", "w%s", "w/y", "w%y", "w+s*2", "(w+s)*2", "w<s", "s<w", "w=20", "w>s", "!w", "!y", "!w+1", "w&y",
            "w&s", "w<w", "w>w", "s>w", "w=s", "0", "y|s", "y|y", "9999*9999", "9999*9999*9999", "0-w/s*0-7", "1+2<4&3", "!5*2+7", "1-w+25"
        };
        int[] gives = {17, 0, 2, 0, 0, 26, 46, 0, 1, 1, 1, 0, 1, 1, 0, 1, 0, 0, 0, 0, 0, 1, 0, 99, 0, 0, 1, 7, 6};
        for (int i = 0; i < texts.length; i++) {
            due(1, text(x, 0, texts[i]));
            Due.due(texts[i], gives[i], x.law(0, 20, 3, 0));
        }
        due(1, text(x, 0, "0"));
        due(0, x.law(0, 7, 7, 7));
        // Ints that wrap: 65536 * 65536 is 0, 2147483647 + 1 lies below 0, what is cut is cut toward 0.
        due(1, text(x, 0, "w*w"));
        due(0, x.law(0, 65536, 0, 0));
        due(1, text(x, 0, "w+1<0"));
        due(1, x.law(0, Integer.MAX_VALUE, 0, 0));
        due(1, text(x, 0, "w/s+9"));
        due(6, x.law(0, -7, 2, 0));
        due(1, text(x, 0, "w%s+9"));
        due(8, x.law(0, -7, 2, 0));
        due(1, text(x, 0, "w/s<0"));
        due(1, x.law(0, Integer.MIN_VALUE, -1, 0));
        due(1, text(x, 0, "w%s+4"));
        due(4, x.law(0, Integer.MIN_VALUE, -1, 0));
        due(1, text(x, 0, "s*10+y"));
        due(34, x.law(0, 99, 3, 4));
        due(1, text(x, 1, "n*10+y"));
        due(34, x.law(1, 99, 3, 4));
        due(34, x.law(0, 99, 3, 4));
    }

    private static void textsInYears() {
        Due.of("promises 12 to 16");
        // Weeps its SORROW less the rest of YEAR by 8; what is dried is twice how many are TORN or dry beside it.
        GreatCambric x = oneMourner();
        x.list(3, 0);
        due(1, text(x, 0, "s-y"));
        due(1, text(x, 1, "n*2"));
        // 40 more, 36 by seeping, 4 times 0 dried (those beside are WET by 1); 1 - 3 * 2 or 1 - 4 * 2 is 0.
        due(36, x.years(1));
        due(22, x.ofMourner(0, 2));
        // YEAR 1: 32 after seeping, YEAR 2: 28; YEAR 3: SORROW 26 less 3 is wept: 51, 47 after seeping.
        due(32, x.then(1, 5));
        due(47, x.then(3, 5));
        due(17, x.all(3, 1));
    }

    private static void years() {
        Due.of("promise 14");
        GreatCambric x = oneMourner();
        due(BEYOND, x.years(0));
        due(BEYOND, x.years(61));
        due(BEYOND, x.years(-1));
        due(0, x.count(1));
        // 11 more WET; 1 to each of four; 3 dried.
        due(4, x.years(1));
        due(1, x.count(1));
        due(4, x.ofCell(5, 0));
        due(37, x.ofMourner(0, 2));
        due(1, x.years(1));
        due(39, x.ofMourner(0, 2));
        due(0, x.years(4));
        due(47, x.ofMourner(0, 2));
        // It comes by again in YEAR 6: 12 wept, eased by 6.
        due(5, x.years(1));
        due(43, x.ofMourner(0, 2));
        // TORN: nothing gets WET, but it is eased by what it weeps.
        GreatCambric t = oneMourner();
        t.cell(5, 1, 1);
        due(0, t.years(1));
        due(37, t.ofMourner(0, 2));
        // SORROW is held to 0 by what eases (SAILOR: 3 by nothing), to 99 by what it grieves.
        GreatCambric h = new GreatCambric();
        h.mourner(20, 1, 0);
        h.mourner(19, 97, 0);
        h.years(1);
        due(2, h.ofMourner(0, 2));
        due(99, h.ofMourner(1, 2));
        for (int i = 0; i < 166; i++) {
            h.years(60);
        }
        due(9961, h.count(1));
        due(STATE, h.years(39));
        due(BEYOND, h.years(61));
        due(9961, h.count(1));
        due(STATE, h.loose(39));
        h.years(37);
        due(STATE, h.years(2));
        h.years(1);
        due(9999, h.count(1));
        due(STATE, h.years(1));
        due(STATE, h.loose(1));
        // What is only thought goes beyond: in YEAR 10002 (by 6: 0) the first one comes by with SORROW 40.
        h.sheet(0, 8, 16);
        h.wets(0);
        h.become(0, 0);
        h.change(0, 0, 34);
        h.change(0, 1, 5);
        due(0, h.all(3, 0));
        due(4, h.then(4, 5));
        due(9999, h.count(1));
    }

    private static void yearsSeepAndDry() {
        Due.of("promise 14");
        GreatCambric x = new GreatCambric();
        // All at once: 30, 20, 10 in a row; 9 more isn't enough.
        x.cell(0, 0, 30);
        x.cell(1, 0, 20);
        x.cell(2, 0, 10);
        x.cell(3, 0, 1);
        x.cell(4, 1, 1);
        // 0 loses 1 to 1; 1 loses 1 to 2, 1 to 5; 2 loses 1 to 6, 9 more than 3 isn't enough; then 3 less.
        due(26 + 16 + 7, x.years(1));
        due(26, x.ofCell(0, 0));
        due(16, x.ofCell(1, 0));
        due(7, x.ofCell(2, 0));
        due(0, x.ofCell(3, 0));
        due(0, x.ofCell(4, 0));
        due(0, x.ofCell(5, 0));
        // One that is TORN doesn't seep, but dries; it was WET, so it doesn't seem dry, but it is TORN.
        GreatCambric t = new GreatCambric();
        t.cell(0, 1, 1);
        t.cell(0, 0, 50);
        due(47, t.years(1));
        due(47, t.ofCell(0, 0));
        due(3, t.ofCell(4, 3));
        // More WET than 99 is held before it seeps.
        GreatCambric h = oneMourner();
        h.cell(5, 0, 99);
        due(92, h.years(1));
        // By just 10, whichever of the two is the more WET.
        GreatCambric j = new GreatCambric();
        j.cell(14, 0, 5);
        j.cell(15, 0, 15);
        j.cell(11, 0, 6);
        j.years(1);
        due(3, j.ofCell(14, 0));
        due(11, j.ofCell(15, 0));
        due(3, j.ofCell(11, 0));
        // 3 and 4 aren't BESIDE one another.
        GreatCambric e = new GreatCambric();
        e.cell(3, 0, 40);
        e.cell(4, 0, 3);
        e.years(1);
        due(35, e.ofCell(3, 0));
        due(0, e.ofCell(4, 0));
        // n is taken as (3) begins, not as cells before it have dried; y is of this YEAR.
        GreatCambric n = new GreatCambric();
        for (int c = 0; c < 16; c++) {
            n.cell(c, 0, 1);
        }
        due(1, text(n, 1, "1+n*9-y"));
        due(0, n.years(1));
        n.cell(0, 0, 50);
        due(0, n.cell(5, 0, 60));
        // YEAR 1: 50 less 2 seeped, n 0 of 0 (both beside are WET by 1): less 0; 60 less 4: likewise; the others less.
        due(48 + 56, n.then(1, 0) + n.then(1, 5));
    }

    private static void loose() {
        Due.of("promise 15");
        GreatCambric x = new GreatCambric();
        for (int i = 0; i < 5; i++) {
            x.mourner(0, 40, 0);
        }
        due(BEYOND, x.loose(0));
        due(BEYOND, x.loose(41));
        due(BEYOND, x.loose(-1));
        due(1, x.count(10));
        // z: 1103527590 (>>> 8: 4310654, by 8: 6, who isn't there), 2524885223 (a draw all the same).
        due(0, x.loose(1));
        due(6, x.ofList(0));
        due(31, x.ofCell(0, 2));
        due((int) 2524885223L, x.count(10));
        // z: 662824084 (>>> 8: 2589156, by 8: 4), 3295386429 (>>> 8: 12872603, by 16: 11); 42 weeps 11 at an edge.
        due(5, x.loose(1));
        due(4, x.ofList(1));
        due(11, x.ofMourner(4, 3));
        due(5, x.ofCell(11, 0));
        due((int) 3295386429L, x.count(10));
        due(2, x.count(1));
        due(42 - 5 + 2, x.ofMourner(4, 2));
        due(44, x.ofMourner(3, 2));
        // 40 are allowed, and YEAR 9999.
        GreatCambric late = new GreatCambric();
        due(0, late.loose(40));
        due(40, late.count(1));
        for (int i = 0; i < 165; i++) {
            late.years(60);
        }
        due(9940, late.count(1));
        late.years(20);
        due(STATE, late.loose(40));
        int z = late.count(10);
        due(STATE, late.loose(40));
        due(z, late.count(10));
        due(0, late.loose(39));
        due(9999, late.count(1));
    }

    private static void then() {
        Due.of("promise 16");
        GreatCambric x = oneMourner();
        due(0, x.then(0, 5));
        due(4, x.then(1, 5));
        due(1, x.then(2, 5));
        due(5, x.then(7, 5));
        due(0, x.then(60, 5));
        due(0, x.count(1));
        due(0, x.ofCell(5, 0));
        due(40, x.ofMourner(0, 2));
        due(BEYOND, x.then(61, 5));
        due(BEYOND, x.then(-1, 5));
        due(BEYOND, x.then(0, 16));
        due(BEYOND, x.then(0, -1));
    }

    private static void all() {
        Due.of("promise 17");
        GreatCambric x = oneMourner();
        x.mourner(10, 10, 0);
        x.cell(15, 0, 99);
        due(99, x.all(0, 0));
        due(50, x.all(0, 1));
        due(1, x.all(0, 2));
        due(4 + 94, x.all(1, 0));
        due(37 + 15, x.all(1, 1));
        due(2, x.all(1, 2));
        due(BEYOND, x.all(61, 0));
        due(BEYOND, x.all(-1, 0));
        due(BEYOND, x.all(0, 3));
        due(BEYOND, x.all(0, -1));
        due(0, x.count(1));
    }

    private static void dry() {
        Due.of("promise 18");
        GreatCambric x = new GreatCambric();
        due(0, x.dry(5));
        x.cell(5, 0, 3);
        due(1, x.dry(5));
        x.cell(5, 0, 4);
        due(2, x.dry(5));
        due(BEYOND, x.dry(16));
        due(BEYOND, x.dry(-1));
        due(1, text(x, 1, "1"));
        x.cell(5, 1, 1);
        x.cell(5, 0, 60);
        due(60, x.dry(5));
        x.cell(5, 0, 61);
        due(NONE, x.dry(5));
        due(0, x.count(1));
        // First: WET by 0 now, though not behind a YEAR.
        due(0, oneMourner().dry(5));
    }

    private static void eased() {
        Due.of("promise 19");
        GreatCambric x = oneMourner();
        due(0, x.eased(0, 40));
        due(1, x.eased(0, 39));
        due(1, x.eased(0, 37));
        due(NONE, x.eased(0, 36));
        due(BEYOND, x.eased(0, 100));
        due(BEYOND, x.eased(0, -1));
        due(BEYOND, x.eased(1, 0));
        due(BEYOND, x.eased(-1, 0));
        // One who comes by in each YEAR, is eased by 4, then 3, and grieves 2 more: never without SORROW.
        for (int p = 0; p < 6; p++) {
            x.list(p, 0);
        }
        due(1, text(x, 0, "8"));
        due(15, x.eased(0, 10));
        due(NONE, x.eased(0, 0));
        due(1, text(x, 0, "6"));
        due(18, x.eased(0, 22));
        due(0, x.count(1));
        due(38, x.eased(0, 2));
        x.change(0, 0, 62);
        due(60, x.eased(0, 2));
        x.change(0, 0, 63);
        due(NONE, x.eased(0, 2));
    }

    private static void cellFor() {
        Due.of("promise 20");
        GreatCambric x = oneMourner();
        // A corner keeps 6, an edge 5, the inner ones 4.
        due(5, x.cellFor(0, 1));
        due(0, x.cellFor(0, 0));
        due(0, x.cellFor(0, 6));
        x.cell(11, 1, 1);
        due(11, x.cellFor(0, 1));
        x.cell(9, 1, 1);
        due(9, x.cellFor(0, 1));
        due(5, x.ofMourner(0, 3));
        due(BEYOND, x.cellFor(0, 61));
        due(BEYOND, x.cellFor(0, -1));
        due(BEYOND, x.cellFor(1, 0));
        due(BEYOND, x.cellFor(-1, 0));
    }

    private static void comesFor() {
        Due.of("promise 21");
        GreatCambric x = oneMourner();
        due(1, x.comesFor(0, 1));
        due(0, x.comesFor(1, 1));
        due(0, x.comesFor(0, 0));
        x.mourner(10, 20, 0);
        due(2, x.comesFor(0, 1));
        x.mourner(30, 49, 0);
        due(2, x.comesFor(0, 1));
        x.mourner(30, 48, 0);
        due(2, x.comesFor(0, 1));
        for (int i = 4; i < 8; i++) {
            x.mourner(10, 40, 0);
        }
        // All are there now: 4, 7, 0, 0, more.
        due(2, x.comesFor(0, 1));
        x.change(2, 0, 80);
        x.change(3, 0, 80);
        due(0, x.comesFor(0, 1));
        due(0, x.ofList(0));
        due(0, x.comesFor(5, 0));
        due(1, oneMourner().comesFor(5, 6));
        due(BEYOND, x.comesFor(6, 0));
        due(BEYOND, x.comesFor(-1, 0));
        due(BEYOND, x.comesFor(0, 61));
        due(BEYOND, x.comesFor(0, -1));
        // Only who comes last weeps least.
        for (int i = 0; i < 7; i++) {
            x.become(i, 10);
        }
        x.become(7, 30);
        due(7, x.comesFor(0, 1));
    }

    private static void kindFor() {
        Due.of("promise 22");
        GreatCambric x = oneMourner();
        due(3, x.kindFor(0, 1));
        due(0, x.kindFor(0, 0));
        x.change(0, 0, 60);
        // 16, 32, 13, 16, 42, 13, 16 are wept: the SAILOR's is the least.
        due(2, x.kindFor(0, 1));
        x.become(0, 9);
        // m as it is: the LAUNDRESS weeps 9 less than 16.
        due(6, x.kindFor(0, 1));
        due(0, x.ofMourner(0, 0));
        due(BEYOND, x.kindFor(0, 61));
        due(BEYOND, x.kindFor(0, -1));
        due(BEYOND, x.kindFor(1, 0));
        due(BEYOND, x.kindFor(-1, 0));
    }

    private static void folded() {
        Due.of("promise 23");
        GreatCambric x = new GreatCambric();
        for (int c = 0; c < 16; c++) {
            due(c, x.folded(1, c, 0));
            due(0, x.folded(1, c, 1));
        }
        // The left half over the right one: 0 comes over 3, 1 over 2.
        int[] row = {1, 0, 0, 1};
        for (int i = 0; i < 4; i++) {
            due(2 + row[i], x.folded(11, 4 + i, 0));
            due(i < 2 ? 1 : 0, x.folded(11, 4 + i, 1));
            due(2 + (i < 2 ? i : 3 - i), x.folded(12, 4 + i, 0));
            due(i < 2 ? 0 : 1, x.folded(12, 4 + i, 1));
            due(4 * row[i] + 1, x.folded(13, 4 * i + 1, 0));
            due(i < 2 ? 1 : 0, x.folded(13, 4 * i + 1, 1));
            due(4 * (i < 2 ? i : 3 - i) + 1, x.folded(14, 4 * i + 1, 0));
            due(i < 2 ? 0 : 1, x.folded(14, 4 * i + 1, 1));
        }
        // 1, then 1: from below 3, 0, 1, 2; 1, then 2: from below 2, 1, 0, 3.
        int[] layers11 = {1, 2, 3, 0};
        int[] layers12 = {2, 1, 0, 3};
        for (int i = 0; i < 4; i++) {
            due(layers11[i], x.folded(111, i, 1));
            due(0, x.folded(111, i, 0));
            due(layers12[i], x.folded(112, i, 1));
            due(3, x.folded(112, 12 + i, 0));
        }
        due(0, x.folded(11133, 0, 0));
        int[] none = {
            0, -1, -11, 2, 3, 10, 15, 16, 21, 110, 115, 1111, 1122, 1333, 11131, 11343, 111111, 113344, 100000, 10000, 11110,
            Integer.MAX_VALUE, Integer.MIN_VALUE, 1111111111
        };
        for (int f : none) {
            Due.due("folded(" + f + ")", BEYOND, x.folded(f, 0, 0));
        }
        due(BEYOND, x.folded(1, 16, 0));
        due(BEYOND, x.folded(1, -1, 0));
        due(BEYOND, x.folded(1, 0, 2));
        due(BEYOND, x.folded(1, 0, -1));
    }

    private static void topFor() {
        Due.of("promise 24");
        GreatCambric x = new GreatCambric();
        for (int c = 0; c < 16; c++) {
            GreatCambric one = new GreatCambric();
            int top = one.topFor(c);
            due(15, one.folded(top, c, 1));
            for (int lesser = 11111; lesser < top; lesser++) {
                if (Integer.toString(lesser).matches("1[1-4]{4}")) {
                    Due.due("TOP FOR " + c + ": " + lesser, 0, one.folded(lesser, c, 1) == 15 ? 1 : 0);
                }
            }
        }
        // 15 stays below by 1 and 1 (it lies right), and by 3; 4 folds the lower half over the upper one.
        due(11134, x.topFor(15));
        due(12243, x.topFor(0));
        due(BEYOND, x.topFor(16));
        due(BEYOND, x.topFor(-1));
    }

    private static void route() {
        Due.of("promise 25");
        GreatCambric x = new GreatCambric();
        due(6, x.route(0, 15));
        due(0, x.route(7, 7));
        due(4, x.route(3, 4));
        due(BEYOND, x.route(-1, 0));
        due(BEYOND, x.route(0, 16));
        // A snake: 0 1 2 3, 7, 11 10 9 8, 12 ..
        for (int c = 4; c < 7; c++) {
            x.cell(c, 1, 1);
        }
        for (int c = 13; c < 16; c++) {
            x.cell(c, 1, 1);
        }
        due(9, x.route(0, 12));
        due(9, x.route(12, 0));
        due(STATE, x.route(0, 13));
        due(STATE, x.route(13, 0));
        due(STATE, x.route(13, 13));
        due(BEYOND, x.route(13, 16));
        x.cell(7, 1, 1);
        due(NONE, x.route(0, 12));
        due(3, x.route(0, 3));
    }

    private static void parts() {
        Due.of("promise 26");
        GreatCambric x = new GreatCambric();
        due(1, x.parts());
        // Every other one: eight PARTS of one.
        int[] black = {0, 2, 5, 7, 8, 10, 13, 15};
        for (int c : black) {
            x.cell(c, 1, 1);
        }
        due(8, x.parts());
        due(8, x.count(6));
        for (int c = 0; c < 16; c++) {
            x.cell(c, 1, 1);
        }
        due(0, x.parts());
        x.cell(9, 1, 0);
        due(1, x.parts());
        // By number beside, on the cloth not.
        x.cell(9, 1, 1);
        x.cell(3, 1, 0);
        x.cell(4, 1, 0);
        due(2, x.parts());
    }

    private static void mends() {
        Due.of("promise 27");
        GreatCambric x = new GreatCambric();
        due(0, x.mends());
        x.cell(5, 1, 1);
        due(0, x.mends());
        // A column from top to bottom: the least of it mends.
        x.cell(5, 1, 0);
        for (int y = 0; y < 4; y++) {
            x.cell(4 * y + 1, 1, 1);
        }
        due(1 << 1, x.mends());
        x.cell(0, 1, 1);
        due(1 << 5, x.mends());
        // Two columns: two that stand in one row.
        x.cell(0, 1, 0);
        for (int y = 0; y < 4; y++) {
            x.cell(4 * y + 2, 1, 1);
        }
        due(1 << 1 | 1 << 2, x.mends());
        x.cell(3, 1, 1);
        due(1 << 5 | 1 << 6, x.mends());
        x.cell(0, 1, 1);
        due(10, Integer.bitCount(x.count(4)));
        due(1 << 5 | 1 << 6, x.mends());
        x.cell(15, 1, 1);
        due(STATE, x.mends());
        due(11, Integer.bitCount(x.count(4)));
    }

    private static void game() {
        Due.of("promise 28");
        GreatCambric x = new GreatCambric();
        due(0, x.game(0));
        due(NONE, x.game(1));
        due(BEYOND, x.game(2));
        due(BEYOND, x.game(-1));
        x.cell(15, 0, 1);
        due(1, x.game(0));
        due(1 << 15, x.game(1));
        x.cell(4, 0, 1);
        // Two apart: who goes second does what is left.
        due(0, x.game(0));
        due(NONE, x.game(1));
        x.cell(15, 0, 0);
        x.cell(3, 0, 99);
        due(0, x.game(0));
        x.cell(3, 0, 0);
        // Two BESIDE one another: both at once.
        x.cell(5, 0, 50);
        due(1, x.game(0));
        due(1 << 4 | 1 << 5, x.game(1));
        // Three in a row: that in the middle leaves two apart.
        x.cell(6, 0, 50);
        due(1 << 5, x.game(1));
        // TORN ones are dried, too.
        x.cell(5, 1, 1);
        due(1 << 5, x.game(1));
        x.cell(5, 0, 0);
        due(0, x.game(0));
        // A square of four: whatever is dried can be answered across.
        GreatCambric s = new GreatCambric();
        s.cell(0, 0, 1);
        s.cell(1, 0, 1);
        s.cell(4, 0, 1);
        s.cell(5, 0, 1);
        due(0, s.game(0));
        for (int c = 6; c < 12; c++) {
            s.cell(c, 0, 1);
        }
        due(10, s.count(3));
        // Without 0 and 1 two rows of four are left, and what is dried there can be answered across.
        due(1, s.game(0));
        due(3, s.game(1));
        s.cell(12, 0, 1);
        due(STATE, s.game(0));
        due(STATE, s.game(1));
        due(BEYOND, s.game(2));
    }

    private static void which() {
        Due.of("promise 29");
        GreatCambric x = oneMourner();
        write(x, 16, 4);
        due(1, x.which(0, 0));
        write(x, 8, 5);
        due(1 << 2 | 1 << 5, x.which(0, 0));
        write(x, 32, 0, 0);
        due(1 << 3 | 1 << 6, x.which(0, 0));
        write(x, 32, 4, 1, 0);
        due(1, x.which(0, 0));
        write(x, 32, 4, 1, 1);
        due(0, x.which(0, 0));
        x.sheet(0, 8, 0);
        due(127, x.which(0, 0));
        // m as it is: a MIDDY with 3 weeps 11, too.
        x.become(0, 3);
        write(x, 16, 4);
        due(1 | 1 << 5, x.which(0, 0));
        due(0, x.ofMourner(0, 0));
        due(BEYOND, x.which(4, 0));
        due(BEYOND, x.which(-1, 0));
        due(BEYOND, x.which(0, 1));
        due(BEYOND, x.which(0, -1));
        due(BEYOND, x.which(1, 1));
        due(NONE, x.which(1, 0));
    }

    private static void sorry() {
        Due.of("promise 30");
        GreatCambric x = oneMourner();
        // 4 is left of 7 wept (24 to 27) and of 11 (40 to 43).
        write(x, 16, 4);
        due(8, x.sorry(0, 0, 0));
        due(24, x.sorry(0, 0, 1));
        write(x, 16, 4, 2);
        due(0, x.sorry(0, 0, 0));
        due(NONE, x.sorry(0, 0, 1));
        // 19 is left of 26 wept by 99 alone .. but 96 to 98 weep 25: 18.
        write(x, 32, 18);
        due(4, x.sorry(0, 0, 0));
        due(96, x.sorry(0, 0, 1));
        x.sheet(0, 8, 0);
        due(100, x.sorry(0, 0, 0));
        due(0, x.sorry(0, 0, 1));
        due(40, x.ofMourner(0, 2));
        due(BEYOND, x.sorry(0, 0, 2));
        due(BEYOND, x.sorry(0, 0, -1));
        due(BEYOND, x.sorry(0, 1, 0));
        due(BEYOND, x.sorry(4, 0, 0));
        due(BEYOND, x.sorry(-1, 0, 0));
        due(BEYOND, x.sorry(1, 0, 2));
        due(NONE, x.sorry(1, 0, 0));
        due(NONE, x.sorry(1, 0, 1));
    }

    private static void odds() {
        Due.of("promise 31");
        GreatCambric x = oneMourner();
        int[] above = {7, 3, 5, 1, 3, 1, 1, 0};
        int[] below = {8, 4, 8, 2, 8, 4, 8, 1};
        for (int many = 1; many <= 8; many++) {
            due(above[many - 1], x.odds(1, 3, 0));
            due(below[many - 1], x.odds(1, 3, 1));
            due(1, x.odds(1, 4, 0));
            due(1, x.odds(1, 4, 1));
            x.mourner(0, 40, 5);
        }
        due(1, x.odds(0, 0, 0));
        due(1, x.odds(30, 1584, 1));
        due(BEYOND, x.odds(31, 0, 0));
        due(BEYOND, x.odds(-1, 0, 0));
        due(BEYOND, x.odds(0, 1585, 0));
        due(BEYOND, x.odds(0, -1, 0));
        due(BEYOND, x.odds(0, 0, 2));
        due(BEYOND, x.odds(0, 0, -1));
        // The place is that of this YEAR: in YEAR 1 place 1.
        GreatCambric y = oneMourner();
        y.list(0, 7);
        y.years(1);
        due(7, y.odds(1, 3, 0));
        due(8, y.odds(1, 3, 1));
        due(1, y.ofList(1));
        due(1, y.count(1));
    }

    private static void seed() {
        Due.of("promise 32");
        GreatCambric x = new GreatCambric();
        due(1, x.seed(-1000000001));
        due(-1000000001, x.seed(Integer.MIN_VALUE));
        due(Integer.MIN_VALUE, x.count(10));
        due(0, x.told(1));
        x.seed(1);
        x.loose(1);
        due(6, x.ofList(0));
    }

    private static void voices(int km, int act, int x, int answer, int... bodies) {
        GreatCambric c = new GreatCambric();
        c.mourner(0, 0, 0);
        c.mourner(0, 0, 0);
        c.mourner(km, 0, 0);
        Due.due("voice of " + km + ", " + act, answer, c.voice(2, act, x));
        due(bodies.length, c.count(9));
        for (int i = 0; i < bodies.length; i++) {
            due(bodies[i], c.trace(i));
        }
        due(NONE, c.trace(bodies.length));
    }

    private static void voice() {
        Due.of("promise 33");
        // Number 2, m 5, x 7.
        voices(5, 0, 7, 9, 10);
        voices(5, 1, 7, 18, 11, 10);
        voices(5, 2, 7, 2, 12);
        voices(5, 3, 7, 18 ^ 2, 13, 11, 10, 12);
        voices(15, 0, 7, 27, 20, 10);
        voices(15, 1, 7, 54, 11, 20, 10);
        voices(15, 3, 7, 54 ^ 2, 13, 11, 20, 10, 12);
        voices(25, 1, 7, 18 - (1 - 5), 30, 11, 10, 12);
        voices(25, 3, 7, 22 ^ 2, 13, 30, 11, 10, 12, 12);
        voices(35, 2, 7, -2, 40, 12);
        voices(35, 3, 7, 18 ^ -2, 13, 11, 10, 40, 12);
        voices(45, 0, 7, 27, 20, 10);
        voices(45, 3, 7, (54 ^ 2) - 12, 50, 13, 11, 20, 10, 12, 20, 10);
        voices(55, 1, 7, 20 + 4, 60, 30, 11, 10, 12);
        voices(55, 3, 7, 24 ^ 2, 13, 60, 30, 11, 10, 12, 12);
        voices(65, 2, 7, -2 ^ 2, 70, 40, 12);
        voices(65, 3, 7, 18 - (18 ^ -2 ^ 2), 71, 11, 10, 13, 11, 10, 70, 40, 12);
        voices(0, 1, Integer.MAX_VALUE, 2, 11, 10);
        voices(0, 0, -1000000003, -1000000001, 10);
        GreatCambric x = oneMourner();
        due(-1000000001, x.voice(0, 0, -1000000001));
        due(0, x.told(1));
        due(BEYOND, x.voice(1, 0, 0));
        due(BEYOND, x.voice(-1, 0, 0));
        due(BEYOND, x.voice(0, 4, 0));
        due(BEYOND, x.voice(0, -1, 0));
        due(4, x.told(1));
    }

    private static void trace() {
        Due.of("promise 34");
        GreatCambric x = oneMourner();
        due(NONE, x.trace(0));
        x.voice(0, 3, 1);
        due(12, x.trace(3));
        due(NONE, x.trace(4));
        due(NONE, x.trace(-1));
        due(NONE, x.trace(40));
        due(NONE, x.trace(Integer.MIN_VALUE));
        // The latest voice() alone; one that answers an ERROR leaves it.
        x.voice(0, 0, 1);
        due(BEYOND, x.voice(0, 4, 1));
        due(10, x.trace(0));
        due(NONE, x.trace(1));
    }

    private static void sheet() {
        Due.of("promise 35");
        GreatCambric x = new GreatCambric();
        due(1, x.sheet(0, 8, 40));
        due(1, x.sheet(1, 16, 0));
        due(1, x.sheet(3, 32, 1));
        due(BEYOND, x.sheet(4, 8, 1));
        due(BEYOND, x.sheet(-1, 8, 1));
        due(BEYOND, x.sheet(4, 8, -1));
        due(BEYOND, x.sheet(0, 9, 1));
        due(BEYOND, x.sheet(0, -8, -1));
        due(BEYOND, x.sheet(0, 64, 1));
        due(BEYOND, x.sheet(0, 8, 41));
        due(STATE, x.sheet(0, 8, -1));
        due(STATE, x.sheet(0, 32, Integer.MIN_VALUE));
        due(1, x.put(0, 39, 5));
        due(BEYOND, x.put(1, 0, 5));
        due(BEYOND, x.put(3, 1, 5));
        due(NONE, x.put(2, 0, 5));
        // A SHEET begun anew is all 0.
        due(1, x.put(0, 0, 5));
        due(1, x.sheet(0, 8, 40));
        x.cell(0, 0, 9);
        due(16, x.wets(0));
        due(0, x.ofCell(0, 0));
        due(1, x.sheet(0, 0, -9));
        due(NONE, x.wets(0));
        due(1, x.sheet(0, 0, 99));
        due(NONE, x.wets(0));
    }

    private static void put() {
        Due.of("promise 36");
        GreatCambric x = new GreatCambric();
        due(NONE, x.put(0, 0, 1));
        due(NONE, x.put(0, -1, 1));
        due(BEYOND, x.put(4, 0, 1));
        due(BEYOND, x.put(-1, 0, 1));
        x.sheet(0, 8, 2);
        x.sheet(1, 16, 2);
        x.sheet(2, 32, 2);
        due(BEYOND, x.put(0, 2, 1));
        due(BEYOND, x.put(0, -1, 1));
        // The lowest bits of 65536 + 256 + 7.
        for (int s = 0; s < 3; s++) {
            due(1, x.put(s, 0, 65536 + 7));
            due(1, x.put(s, 1, 256 + 7));
        }
        due(2, x.wets(0));
        due(7, x.ofCell(0, 0));
        due(7, x.ofCell(1, 0));
        due(1, x.wets(1));
        due(0, x.wets(2));
    }

    private static void move() {
        Due.of("promise 37");
        GreatCambric x = new GreatCambric();
        write(x, 8, 1, 2, 3, 4, 5);
        x.sheet(1, 8, 3);
        x.sheet(2, 16, 3);
        due(BEYOND, x.move(4, 0, 3, 0, -1));
        due(BEYOND, x.move(3, 0, -1, 0, -1));
        due(NONE, x.move(3, 0, 0, 0, -1));
        due(NONE, x.move(0, 0, 3, 0, -1));
        due(KIND, x.move(0, 0, 2, 0, -1));
        due(BEYOND, x.move(0, 0, 1, 0, -1));
        due(BEYOND, x.move(0, -1, 1, 0, 1));
        due(BEYOND, x.move(0, 0, 1, -1, 1));
        due(BEYOND, x.move(0, 0, 1, 0, 4));
        due(BEYOND, x.move(0, 3, 1, 0, 3));
        due(BEYOND, x.move(0, 6, 1, 0, 0));
        due(BEYOND, x.move(0, 1, 1, 0, Integer.MAX_VALUE));
        due(BEYOND, x.move(0, Integer.MAX_VALUE, 1, 0, 1));
        due(0, x.move(0, 5, 1, 3, 0));
        due(3, x.move(0, 2, 1, 0, 3));
        due(3, x.wets(1));
        due(3, x.ofCell(0, 0));
        due(5, x.ofCell(2, 0));
        // Onto itself, as they all were.
        due(4, x.move(0, 0, 0, 1, 4));
        due(5, x.wets(0));
        int[] now = {1, 1, 2, 3, 4};
        for (int c = 0; c < 5; c++) {
            due(now[c], x.ofCell(c, 0));
        }
        due(4, x.move(0, 1, 0, 0, 4));
        due(5, x.wets(0));
        int[] back = {1, 2, 3, 4, 4};
        for (int c = 0; c < 5; c++) {
            due(back[c], x.ofCell(c, 0));
        }
    }

    private static void wets() {
        Due.of("promise 38");
        GreatCambric x = new GreatCambric();
        due(BEYOND, x.wets(4));
        due(BEYOND, x.wets(-1));
        due(NONE, x.wets(0));
        x.sheet(0, 8, 0);
        due(0, x.wets(0));
        write(x, 32, 99, 0, 5, 100, 6);
        x.cell(1, 0, 8);
        x.cell(3, 0, 8);
        x.cell(4, 0, 9);
        due(3, x.wets(0));
        due(99, x.ofCell(0, 0));
        due(0, x.ofCell(1, 0));
        due(5, x.ofCell(2, 0));
        due(8, x.ofCell(3, 0));
        due(9, x.ofCell(4, 0));
        due(1, x.put(0, 0, -1));
        due(0, x.wets(0));
        due(99, x.ofCell(0, 0));
        x.sheet(1, 16, 40);
        for (int i = 0; i < 40; i++) {
            x.put(1, i, i);
        }
        due(16, x.wets(1));
        due(15, x.ofCell(15, 0));
        x.sheet(1, 16, 16);
        due(16, x.wets(1));
        due(0, x.count(2));
    }

    private static void judge() {
        Due.of("promise 39");
        GreatCambric x = oneMourner();
        due(BEYOND, x.judge(4));
        due(BEYOND, x.judge(-1));
        due(NONE, x.judge(0));
        x.mourner(0, 7, 0);
        write(x, 8, 40, 7);
        due(-1, x.judge(0));
        write(x, 8, 40, 8);
        due(1, x.judge(0));
        write(x, 8, 41, 8);
        due(0, x.judge(0));
        write(x, 8, 40);
        due(1, x.judge(0));
        write(x, 8, 40, 7, 0);
        due(2, x.judge(0));
        x.sheet(0, 8, 0);
        due(0, x.judge(0));
        due(40, x.ofMourner(0, 2));
        GreatCambric none = new GreatCambric();
        none.sheet(0, 8, 0);
        due(-1, none.judge(0));
        none.sheet(0, 8, 1);
        due(0, none.judge(0));
    }

    private static void image() {
        Due.of("promises 40, 41");
        GreatCambric x = oneMourner();
        x.cell(9, 0, 30);
        x.cell(10, 1, 1);
        x.list(1, 5);
        x.seed(77);
        x.tell(8);
        text(x, 0, "9");
        text(x, 1, "1");
        feed(x, "12");
        x.years(1);
        x.sheet(0, 8, 1);
        due(1, x.image());
        int wet = x.count(2);
        int[] counts = new int[11];
        for (int i = 0; i < 11; i++) {
            counts[i] = x.count(i);
        }
        x.mourner(10, 5, 5);
        x.change(0, 0, 3);
        x.change(0, 1, 3);
        x.become(0, 69);
        x.cell(9, 0, 1);
        x.cell(11, 1, 1);
        x.list(1, 6);
        x.seed(78);
        x.tell(9);
        due(1, x.text(1));
        text(x, 0, "8");
        feed(x, "345");
        x.put(0, 0, 50);
        x.sheet(1, 8, 1);
        x.voice(0, 1, 0);
        x.years(20);
        due(NONE, x.trace(99));
        due(1, x.restore());
        for (int i = 0; i < 9; i++) {
            due(counts[i], x.count(i));
        }
        due(77, x.count(10));
        due(wet, x.count(2));
        due(0, x.ofMourner(0, 0));
        due(5, x.ofMourner(0, 3));
        due(5, x.ofList(1));
        due(9, x.law(0, 0, 0, 0));
        due(1, x.law(1, 0, 0, 0));
        // SHEETS, THE TRACE, what told() tells, and how often this was done stay.
        due(1, x.wets(0));
        due(50, x.ofCell(0, 0));
        due(1, x.wets(1));
        due(2, x.count(9));
        due(1, x.told(2));
        // THE TAPE and what waits are those of the IMAGE.
        due(1, x.text(0));
        due(12, x.law(0, 0, 0, 0));
        due(2, x.tell(8));
        // The IMAGE stays; another one takes its place.
        due(1, x.restore());
        due(9, x.law(0, 0, 0, 0));
        x.years(4);
        due(2, x.image());
        x.years(1);
        due(5, x.restore());
        due(3, x.image());
    }

    private static void restore() {
        Due.of("promise 41");
        GreatCambric x = new GreatCambric();
        due(NONE, x.restore());
        due(1, x.image());
        x.years(60);
        due(0, x.restore());
        due(0, x.count(1));
        due(1, x.told(2));
        // An IMAGE without a TEXT takes the TEXT away again.
        text(x, 0, "5");
        due(0, x.restore());
        due(8, x.law(0, 8, 0, 0));
    }

    private static void tell() {
        Due.of("promise 42");
        GreatCambric x = new GreatCambric();
        for (int i = 1; i <= 20; i++) {
            due(i, x.tell(0));
        }
        due(FULL, x.tell(0));
        due(20, x.count(8));
        due(0, x.check());
        due(1, x.tell(Integer.MIN_VALUE));
    }

    private static void check() {
        Due.of("promise 43");
        GreatCambric x = oneMourner();
        due(0, x.check());
        x.tell(4);
        x.tell(1);
        x.tell(0);
        due(0, x.check());
        due(0, x.count(8));
        due(0, x.count(1));
        x.tell(4);
        x.tell(2);
        x.tell(9);
        due(2, x.check());
        due(0, x.count(8));
        x.tell(0);
        due(1, x.check());
        due(0, x.check());
    }

    private static void count() {
        Due.of("promise 44");
        GreatCambric x = oneMourner();
        x.mourner(0, 9, 0);
        x.cell(3, 0, 90);
        x.cell(4, 0, 9);
        x.cell(1, 1, 1);
        x.cell(4, 1, 1);
        feed(x, "ab");
        x.tell(1);
        x.tell(1);
        x.tell(1);
        x.voice(0, 3, 0);
        x.seed(-5);
        int[] counts = {2, 0, 99, 2, 18, 49, 2, 2, 3, 4, -5};
        for (int i = 0; i < counts.length; i++) {
            due(counts[i], x.count(i));
        }
        x.years(7);
        due(7, x.count(1));
        due(BEYOND, x.count(11));
        due(BEYOND, x.count(-1));
    }

    private static void told() {
        Due.of("promise 45");
        GreatCambric x = oneMourner();
        x.cell(16, 0, 0);
        x.dry(-1);
        x.restore();
        x.cell(0, 1, 1);
        x.route(0, 1);
        x.route(0, 1);
        x.route(0, 1);
        for (int i = 0; i < 24; i++) {
            x.tell(0);
        }
        for (int i = 0; i < 5; i++) {
            x.as(0, 1);
        }
        due(2, x.told(1));
        due(1, x.told(2));
        due(3, x.told(3));
        due(4, x.told(4));
        due(5, x.told(5));
        due(BEYOND, x.told(0));
        due(BEYOND, x.told(6));
        due(BEYOND, x.told(-1));
        due(5, x.told(1));
        // -10 less a FAULT, 0 and -1 are no ERRORS.
        x.text(0);
        x.sheet(0, 8, 1);
        x.judge(0);
        due(5, x.told(1));
        due(1, x.told(2));
    }
}

import java.util.ArrayList;
import java.util.Arrays;
import java.util.List;
import java.util.function.Supplier;
import java.util.function.ToIntFunction;

/**
 * Each call that is refused: its ERROR is told once, and nothing else is changed. Of two objects made alike one alone
 * is asked for it; all that can be seen of both must be the same behind it.
 */
public final class RefusalTest extends Edges {
    private static final int LAST_YEAR = 9999;

    private RefusalTest() {
    }

    public static void main(String[] args) {
        ofAnyObject(RefusalTest::some, 3);
        ofAnyObject(RefusalTest::full, 8);
        ofAnyObject(GreatCambric::new, 0);
        ofSome();
        ofFull();
        ofNew();
        Due.end();
    }

    /** Some of each; the SHEET 3 is missing, the SHEET 2 is empty. */
    private static GreatCambric some() {
        GreatCambric x = new GreatCambric();
        x.mourner(0, 40, 5);
        x.mourner(47, 60, 5);
        x.mourner(62, 90, 12);
        x.cell(3, 0, 50);
        x.cell(4, 0, 7);
        tear(x, 1, 4, 9);
        x.list(2, 7);
        text(x, 0, "w+s/9");
        text(x, 1, "1+n");
        feed(x, "w+1");
        write(x, 0, 8, 1, 2, 3, 4);
        write(x, 1, 16, 5, 6, 7);
        write(x, 2, 8);
        x.voice(2, 3, 5);
        x.tell(50);
        x.image();
        x.years(2);
        x.tell(7);
        x.seed(12345);
        return x;
    }

    /** As much of each as can be, in the last YEAR. */
    private static GreatCambric full() {
        GreatCambric x = mourners(8);
        until(x, LAST_YEAR);
        for (int c = 0; c < 11; c++) {
            x.cell(c, 0, 99 - c);
            x.cell(15 - c, 1, 1);
        }
        write(x, 0, 8, 99, 98);
        write(x, 1, 32, 97, 96);
        x.voice(7, 3, 5);
        x.image();
        feed(x, "9+".repeat(25));
        for (int i = 0; i < 20; i++) {
            x.tell(i);
        }
        return x;
    }

    // ---- what can be seen

    private static int[] seen(GreatCambric x) {
        List<Integer> all = new ArrayList<>();
        look(x, all);
        sheetsAndTape(x, all);
        all.add(x.restore());
        look(x, all);
        all.add(x.image());
        return all.stream().mapToInt(i -> i).toArray();
    }

    private static void look(GreatCambric x, List<Integer> all) {
        for (int what = 0; what < 11; what++) {
            all.add(x.count(what));
        }
        for (int c = 0; c < 16; c++) {
            all.add(x.ofCell(c, 0));
        }
        for (int p = 0; p < 6; p++) {
            all.add(x.ofList(p));
        }
        for (int i = 0; i < x.count(0); i++) {
            for (int what = 0; what < 4; what++) {
                all.add(x.ofMourner(i, what));
            }
        }
        for (int use = 0; use < 2; use++) {
            all.add(x.law(use, 30, 9, 1));
            all.add(x.law(use, 2, 1, 5));
        }
        for (int i = 0; i < x.count(9); i++) {
            all.add(x.trace(i));
        }
    }

    /** This changes what it looks at, of both objects alike. */
    private static void sheetsAndTape(GreatCambric x, List<Integer> all) {
        for (int s = 0; s < 4; s++) {
            for (int c = 0; c < 4; c++) {
                x.cell(c, 0, 0);
            }
            all.add(x.wets(s));
            for (int c = 0; c < 4; c++) {
                all.add(x.ofCell(c, 0));
            }
            all.add(x.move(s, 0, 0, 0, 0));
            all.add(x.move(s, 0, 1, 0, 0));
        }
        all.add(x.text(0));
        all.add(x.law(0, 30, 9, 1));
        all.add(x.check());
    }

    private static void refused(Supplier<GreatCambric> made, String call, int error, ToIntFunction<GreatCambric> asked) {
        GreatCambric x = made.get();
        GreatCambric twin = made.get();
        Due.of(call);
        due("answer", -1000000000 - error, asked.applyAsInt(x));
        for (int k = 1; k <= 5; k++) {
            due("told(" + k + ")", twin.told(k) + (k == error ? 1 : 0), x.told(k));
        }
        int[] want = seen(twin);
        int[] got = seen(x);
        due("all that can be seen", 1, Arrays.equals(want, got) ? 1 : 0);
    }

    // ---- what is refused of any object, with so many MOURNERS

    private static void ofAnyObject(Supplier<GreatCambric> made, int mourners) {
        for (int far : new int[] {-1, LEAST, GREATEST}) {
            beyondOfCloth(made, far);
            beyondOfMourners(made, far < 0 ? far : mourners);
            beyondOfThoughts(made, far);
            beyondOfSheets(made, far);
        }
        beyondByOne(made);
    }

    private static void beyondOfCloth(Supplier<GreatCambric> made, int far) {
        refused(made, "cell(far, 0, 1)", 1, x -> x.cell(far, 0, 1));
        refused(made, "cell(0, far, 1)", 1, x -> x.cell(0, far, 1));
        refused(made, "cell(0, 0, far)", 1, x -> x.cell(0, 0, far));
        refused(made, "cell(0, 1, far)", 1, x -> x.cell(0, 1, far));
        refused(made, "ofCell(far, 0)", 1, x -> x.ofCell(far, 0));
        refused(made, "ofCell(0, far)", 1, x -> x.ofCell(0, far));
        refused(made, "list(far, 1)", 1, x -> x.list(far, 1));
        refused(made, "list(0, far)", 1, x -> x.list(0, far));
        refused(made, "ofList(far)", 1, x -> x.ofList(far));
        refused(made, "mourner(far, 1, 1)", 1, x -> x.mourner(far, 1, 1));
        refused(made, "mourner(1, far, 1)", 1, x -> x.mourner(1, far, 1));
        refused(made, "mourner(1, 1, far)", 1, x -> x.mourner(1, 1, far));
        refused(made, "feed(1, far)", 1, x -> x.feed(1, far));
        refused(made, "text(far)", 1, x -> x.text(far));
        refused(made, "law(far, 1, 1, 1)", 1, x -> x.law(far, 1, 1, 1));
        refused(made, "years(far)", 1, x -> x.years(far));
        refused(made, "loose(far)", 1, x -> x.loose(far));
        refused(made, "folded(far, 1, 1)", 1, x -> x.folded(far, 1, 1));
        refused(made, "folded(1, far, 1)", 1, x -> x.folded(1, far, 1));
        refused(made, "folded(1, 1, far)", 1, x -> x.folded(1, 1, far));
        refused(made, "topFor(far)", 1, x -> x.topFor(far));
        refused(made, "route(far, 1)", 1, x -> x.route(far, 1));
        refused(made, "route(1, far)", 1, x -> x.route(1, far));
        refused(made, "game(far)", 1, x -> x.game(far));
        refused(made, "count(far)", 1, x -> x.count(far));
        refused(made, "told(far)", 1, x -> x.told(far));
    }

    private static void beyondOfMourners(Supplier<GreatCambric> made, int nobody) {
        refused(made, "ofMourner(nobody, 1)", 1, x -> x.ofMourner(nobody, 1));
        refused(made, "change(nobody, 0, 1)", 1, x -> x.change(nobody, 0, 1));
        refused(made, "become(nobody, 1)", 1, x -> x.become(nobody, 1));
        refused(made, "as(nobody, 1)", 1, x -> x.as(nobody, 1));
        refused(made, "eased(nobody, 1)", 1, x -> x.eased(nobody, 1));
        refused(made, "cellFor(nobody, 1)", 1, x -> x.cellFor(nobody, 1));
        refused(made, "kindFor(nobody, 1)", 1, x -> x.kindFor(nobody, 1));
        refused(made, "which(0, nobody)", 1, x -> x.which(0, nobody));
        refused(made, "sorry(0, nobody, 1)", 1, x -> x.sorry(0, nobody, 1));
        refused(made, "voice(nobody, 1, 1)", 1, x -> x.voice(nobody, 1, 1));
    }

    private static void beyondOfThoughts(Supplier<GreatCambric> made, int far) {
        refused(made, "ofMourner(0, far)", 1, x -> x.ofMourner(0, far));
        refused(made, "change(0, far, 1)", 1, x -> x.change(0, far, 1));
        refused(made, "change(0, 0, far)", 1, x -> x.change(0, 0, far));
        refused(made, "change(0, 1, far)", 1, x -> x.change(0, 1, far));
        refused(made, "become(0, far)", 1, x -> x.become(0, far));
        refused(made, "as(0, far)", 1, x -> x.as(0, far));
        refused(made, "then(far, 1)", 1, x -> x.then(far, 1));
        refused(made, "then(1, far)", 1, x -> x.then(1, far));
        refused(made, "all(far, 1)", 1, x -> x.all(far, 1));
        refused(made, "all(1, far)", 1, x -> x.all(1, far));
        refused(made, "dry(far)", 1, x -> x.dry(far));
        refused(made, "eased(0, far)", 1, x -> x.eased(0, far));
        refused(made, "cellFor(0, far)", 1, x -> x.cellFor(0, far));
        refused(made, "comesFor(far, 1)", 1, x -> x.comesFor(far, 1));
        refused(made, "comesFor(1, far)", 1, x -> x.comesFor(1, far));
        refused(made, "kindFor(0, far)", 1, x -> x.kindFor(0, far));
        refused(made, "odds(far, 1, 1)", 1, x -> x.odds(far, 1, 1));
        refused(made, "odds(1, far, 1)", 1, x -> x.odds(1, far, 1));
        refused(made, "odds(1, 1, far)", 1, x -> x.odds(1, 1, far));
        refused(made, "voice(0, far, 1)", 1, x -> x.voice(0, far, 1));
        refused(made, "trace(far)", 2, x -> x.trace(far));
    }

    private static void beyondOfSheets(Supplier<GreatCambric> made, int far) {
        refused(made, "which(far, 0)", 1, x -> x.which(far, 0));
        refused(made, "sorry(far, 0, 0)", 1, x -> x.sorry(far, 0, 0));
        refused(made, "sorry(0, 0, far)", 1, x -> x.sorry(0, 0, far));
        refused(made, "sheet(far, 8, 1)", 1, x -> x.sheet(far, 8, 1));
        refused(made, "sheet(0, far, 1)", 1, x -> x.sheet(0, far, 1));
        refused(made, "sheet(0, 16, far)", far < 0 ? 3 : 1, x -> x.sheet(0, 16, far));
        refused(made, "put(far, 0, 1)", 1, x -> x.put(far, 0, 1));
        refused(made, "put(3, far, 1)", 2, x -> x.put(3, far, 1));
        refused(made, "move(far, 0, 0, 0, 1)", 1, x -> x.move(far, 0, 0, 0, 1));
        refused(made, "move(0, 0, far, 0, 1)", 1, x -> x.move(0, 0, far, 0, 1));
        refused(made, "move(3, far, 3, far, far)", 2, x -> x.move(3, far, 3, far, far));
        refused(made, "wets(far)", 1, x -> x.wets(far));
        refused(made, "judge(far)", 1, x -> x.judge(far));
        refused(made, "wets(3)", 2, x -> x.wets(3));
        refused(made, "judge(3)", 2, x -> x.judge(3));
    }

    private static void beyondByOne(Supplier<GreatCambric> made) {
        refused(made, "cell(16, 0, 1)", 1, x -> x.cell(16, 0, 1));
        refused(made, "cell(15, 2, 1)", 1, x -> x.cell(15, 2, 1));
        refused(made, "cell(15, 0, 100)", 1, x -> x.cell(15, 0, 100));
        refused(made, "cell(15, 1, 2)", 1, x -> x.cell(15, 1, 2));
        refused(made, "ofCell(16, 0)", 1, x -> x.ofCell(16, 0));
        refused(made, "ofCell(15, 4)", 1, x -> x.ofCell(15, 4));
        refused(made, "list(6, 7)", 1, x -> x.list(6, 7));
        refused(made, "list(5, 8)", 1, x -> x.list(5, 8));
        refused(made, "ofList(6)", 1, x -> x.ofList(6));
        refused(made, "mourner(70, 99, 15)", 1, x -> x.mourner(70, 99, 15));
        refused(made, "mourner(69, 100, 15)", 1, x -> x.mourner(69, 100, 15));
        refused(made, "mourner(69, 99, 16)", 1, x -> x.mourner(69, 99, 16));
        refused(made, "feed(1, 0)", 1, x -> x.feed(1, 0));
        refused(made, "feed(1, 9)", 1, x -> x.feed(1, 9));
        refused(made, "text(2)", 1, x -> x.text(2));
        refused(made, "law(2, 1, 1, 1)", 1, x -> x.law(2, 1, 1, 1));
        refused(made, "years(0)", 1, x -> x.years(0));
        refused(made, "years(61)", 1, x -> x.years(61));
        refused(made, "loose(0)", 1, x -> x.loose(0));
        refused(made, "loose(41)", 1, x -> x.loose(41));
        refused(made, "folded(1111, 0, 0)", 1, x -> x.folded(1111, 0, 0));
        refused(made, "topFor(16)", 1, x -> x.topFor(16));
        refused(made, "game(2)", 1, x -> x.game(2));
        refused(made, "sheet(0, 8, 41)", 1, x -> x.sheet(0, 8, 41));
        refused(made, "sheet(4, 8, 1)", 1, x -> x.sheet(4, 8, 1));
        refused(made, "put(4, 0, 1)", 1, x -> x.put(4, 0, 1));
        refused(made, "count(11)", 1, x -> x.count(11));
        refused(made, "told(0)", 1, x -> x.told(0));
        refused(made, "told(6)", 1, x -> x.told(6));
    }

    // ---- what is refused of one of them

    private static void ofSome() {
        Supplier<GreatCambric> made = RefusalTest::some;
        refused(made, "as: not of that KIND", 5, x -> x.as(0, 1));
        refused(made, "as: of one above it", 5, x -> x.as(1, 2));
        refused(made, "dry: not by 60", 2, x -> {
            text(x, 1, "0");
            return LEAST;
        }, x -> x.dry(3));
        refused(made, "eased: not by 60", 2, x -> x.eased(1, 0));
        refused(made, "route: TORN", 3, x -> x.route(0, 1));
        refused(made, "route: none", 2, x -> x.route(0, 15));
        refused(made, "which: missing", 2, x -> x.which(3, 0));
        refused(made, "sorry: missing", 2, x -> x.sorry(3, 0, 0));
        refused(made, "sorry: none", 2, x -> x.sorry(0, 0, 1));
        refused(made, "put: no such number", 1, x -> x.put(0, 4, 9));
        refused(made, "put: none in an empty one", 1, x -> x.put(2, 0, 9));
        refused(made, "move: unlike bits", 5, x -> x.move(0, 0, 1, 0, 1));
        refused(made, "move: too many", 1, x -> x.move(0, 0, 0, 1, 4));
        refused(made, "move: below 0", 1, x -> x.move(0, 1, 0, 0, -1));
        refused(made, "move: into an empty one", 1, x -> x.move(0, 0, 2, 0, 1));
        refused(made, "sheet: below 0", 3, x -> x.sheet(0, 8, -1));
    }

    /** What comes first is done to both. */
    private static void refused(Supplier<GreatCambric> made, String call, int error, ToIntFunction<GreatCambric> first,
            ToIntFunction<GreatCambric> asked) {
        refused(() -> {
            GreatCambric x = made.get();
            x.text(1);
            first.applyAsInt(x);
            return x;
        }, call, error, asked);
    }

    private static void ofFull() {
        Supplier<GreatCambric> made = RefusalTest::full;
        refused(made, "mourner: 8 are there", 4, x -> x.mourner(0, 0, 0));
        refused(made, "feed: 50 bytes are there", 4, x -> x.feed(1, 1));
        refused(made, "feed: 8 more", 4, x -> x.feed(1, 8));
        refused(made, "years: YEAR 9999", 3, x -> x.years(1));
        refused(made, "loose: YEAR 9999", 3, x -> x.loose(1));
        refused(made, "mends: 11 are TORN", 3, x -> x.mends());
        refused(made, "game: 11 are WET", 3, x -> x.game(0));
        refused(made, "game: 11 are WET", 3, x -> x.game(1));
        refused(made, "tell: 20 wait", 4, x -> x.tell(0));
    }

    private static void ofNew() {
        Supplier<GreatCambric> made = GreatCambric::new;
        refused(made, "game: who begins can't win", 2, x -> x.game(1));
        refused(made, "trace: none", 2, x -> x.trace(0));
        refused(made, "restore: none", 2, x -> x.restore());
        refused(made, "put: missing", 2, x -> x.put(0, 0, 0));
        refused(made, "move: missing", 2, x -> x.move(0, 0, 1, 0, 0));
        refused(made, "wets: missing", 2, x -> x.wets(0));
        refused(made, "judge: missing", 2, x -> x.judge(0));
    }
}

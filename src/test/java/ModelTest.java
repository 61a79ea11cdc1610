import java.util.ArrayList;
import java.util.List;
import java.util.Random;

/** Random runs of calls: GreatCambric and PlainCambric must answer the same. */
public final class ModelTest {
    private static final int RUNS = 100;
    private static final int CALLS = 500;

    private final Random random;
    private final GreatCambric x = new GreatCambric();
    private final PlainCambric p = new PlainCambric();
    private int calls = 0;

    private ModelTest(long seed) {
        random = new Random(seed);
    }

    public static void main(String[] args) {
        for (int run = 0; run < RUNS && Due.allRight(); run++) {
            Due.of("run " + run);
            new ModelTest(run).run();
        }
        Due.end();
    }

    private void run() {
        boolean crowded = random.nextBoolean();
        for (int i = 0; i < (crowded ? 8 : 2); i++) {
            beginMourner();
        }
        while (calls < CALLS && Due.allRight()) {
            step();
        }
    }

    private void same(String call, long want, long got) {
        calls++;
        Due.due("call " + calls + ", " + call, want, got);
    }

    /** Mostly 0 to most, now and then just outside or far away. */
    private int pick(int most) {
        switch (random.nextInt(40)) {
            case 0:
                return -1;
            case 1:
                return most + 1;
            case 2:
                return random.nextInt();
            case 3:
                return random.nextBoolean() ? Integer.MIN_VALUE : Integer.MAX_VALUE;
            case 4:
                return most;
            default:
                return random.nextInt(most + 1);
        }
    }

    private int who() {
        return p.w.souls.isEmpty() ? pick(7) : random.nextInt(15) == 0 ? pick(8) : random.nextInt(p.w.souls.size());
    }

    private void beginMourner() {
        int km = pick(69);
        int sorrow = pick(99);
        int cell = pick(15);
        same("mourner(" + km + ", " + sorrow + ", " + cell + ")", p.mourner(km, sorrow, cell), x.mourner(km, sorrow, cell));
    }

    private void step() {
        switch (random.nextInt(9)) {
            case 0:
                stepCloth();
                break;
            case 1:
                stepMourners();
                break;
            case 2:
                stepYears();
                break;
            case 3:
                stepThought();
                break;
            case 4:
                stepFoldings();
                break;
            case 5:
                stepSheets();
                break;
            case 6:
                stepGuesses();
                break;
            case 7:
                stepVoicesAndImages();
                break;
            default:
                stepText();
        }
    }

    private void stepCloth() {
        int c = pick(15);
        int what = pick(1);
        int v = pick(what == 0 ? 99 : 1);
        int place = pick(5);
        int mourner = pick(7);
        switch (random.nextInt(5)) {
            case 0:
            case 1:
                same("cell(" + c + ", " + what + ", " + v + ")", p.cell(c, what, v), x.cell(c, what, v));
                break;
            case 2:
                what = pick(3);
                same("ofCell(" + c + ", " + what + ")", p.ofCell(c, what), x.ofCell(c, what));
                break;
            case 3:
                same("list(" + place + ", " + mourner + ")", p.list(place, mourner), x.list(place, mourner));
                break;
            default:
                same("ofList(" + place + ")", p.ofList(place), x.ofList(place));
        }
    }

    private void stepMourners() {
        int i = who();
        int what = pick(6);
        switch (random.nextInt(6)) {
            case 0:
                beginMourner();
                break;
            case 1:
                what = pick(1);
                int v = pick(what == 0 ? 99 : 15);
                same("change(" + i + ", " + what + ", " + v + ")", p.change(i, what, v), x.change(i, what, v));
                break;
            case 2:
                int km = pick(69);
                same("become(" + i + ", " + km + ")", p.become(i, km), x.become(i, km));
                break;
            case 3:
                same("as(" + i + ", " + what + ")", p.as(i, what), x.as(i, what));
                break;
            default:
                same("ofMourner(" + i + ", " + what + ")", p.ofMourner(i, what), x.ofMourner(i, what));
        }
    }

    private void stepYears() {
        int n = random.nextInt(10) == 0 ? pick(60) : random.nextInt(4) + 1;
        int cell = pick(15);
        int v = pick(99);
        switch (random.nextInt(4)) {
            case 0:
                same("years(" + n + ")", p.years(n), x.years(n));
                break;
            case 1:
                same("loose(" + n + ")", p.loose(n), x.loose(n));
                break;
            case 2:
                int z = random.nextInt();
                same("seed(" + z + ")", p.seed(z), x.seed(z));
                break;
            default:
                for (int i = 0; i < 6; i++) {
                    int c = random.nextInt(16);
                    int wet = random.nextInt(100);
                    same("cell(" + c + ", 0, " + wet + ")", p.cell(c, 0, wet), x.cell(c, 0, wet));
                }
        }
    }

    private void stepThought() {
        int n = pick(60);
        int c = pick(15);
        int i = who();
        int v = pick(99);
        int what = pick(2);
        int place = pick(5);
        switch (random.nextInt(8)) {
            case 0:
                same("then(" + n + ", " + c + ")", p.then(n, c), x.then(n, c));
                break;
            case 1:
                same("all(" + n + ", " + what + ")", p.all(n, what), x.all(n, what));
                break;
            case 2:
                same("dry(" + c + ")", p.dry(c), x.dry(c));
                break;
            case 3:
                same("eased(" + i + ", " + v + ")", p.eased(i, v), x.eased(i, v));
                break;
            case 4:
                same("cellFor(" + i + ", " + n + ")", p.cellFor(i, n), x.cellFor(i, n));
                break;
            case 5:
                same("comesFor(" + place + ", " + n + ")", p.comesFor(place, n), x.comesFor(place, n));
                break;
            case 6:
                same("kindFor(" + i + ", " + n + ")", p.kindFor(i, n), x.kindFor(i, n));
                break;
            default:
                int m = pick(30);
                int wet = random.nextBoolean() ? Math.max(0, p.w.behind(20).sum() + random.nextInt(9) - 4) : pick(1584);
                int part = pick(1);
                same("odds(" + m + ", " + wet + ", " + part + ")", p.odds(m, wet, part), x.odds(m, wet, part));
        }
    }

    private int folding() {
        int f = 1;
        for (int i = random.nextInt(6); i > 0; i--) {
            f = f * 10 + (random.nextInt(9) == 0 ? random.nextInt(10) : 1 + random.nextInt(4));
        }
        return random.nextInt(12) == 0 ? pick(20000) : f;
    }

    private void stepFoldings() {
        int c = pick(15);
        int d = pick(15);
        int what = pick(1);
        switch (random.nextInt(7)) {
            case 0:
            case 1:
                int f = folding();
                same("folded(" + f + ", " + c + ", " + what + ")", p.folded(f, c, what), x.folded(f, c, what));
                break;
            case 2:
                same("topFor(" + c + ")", p.topFor(c), x.topFor(c));
                break;
            case 3:
                same("route(" + c + ", " + d + ")", p.route(c, d), x.route(c, d));
                break;
            case 4:
                same("parts()", p.parts(), x.parts());
                break;
            case 5:
                same("mends()", p.mends(), x.mends());
                break;
            default:
                same("game(" + what + ")", p.game(what), x.game(what));
                if (random.nextBoolean()) {
                    int dry = random.nextInt(16);
                    same("cell(" + dry + ", 0, 0)", p.cell(dry, 0, 0), x.cell(dry, 0, 0));
                }
        }
    }

    private int bits() {
        return random.nextInt(20) == 0 ? pick(40) : 8 * (1 << random.nextInt(3));
    }

    private void beginSheet(int s, int bits, int n) {
        same("sheet(" + s + ", " + bits + ", " + n + ")", p.sheet(s, bits, n), x.sheet(s, bits, n));
    }

    private void putInto(int s, int i, int v) {
        same("put(" + s + ", " + i + ", " + v + ")", p.put(s, i, v), x.put(s, i, v));
    }

    private void stepSheets() {
        int s = pick(3);
        int o = pick(3);
        int i = pick(5);
        int j = pick(5);
        int n = pick(6);
        switch (random.nextInt(8)) {
            case 0:
                beginSheet(s, bits(), random.nextBoolean() ? pick(40) : pick(10));
                break;
            case 1:
            case 2:
                putInto(s, i, random.nextBoolean() ? random.nextInt(130) : pick(70000));
                break;
            case 3:
            case 4:
                same("move(" + s + ", " + i + ", " + o + ", " + j + ", " + n + ")", p.move(s, i, o, j, n), x.move(s, i, o, j, n));
                break;
            case 5:
                same("wets(" + s + ")", p.wets(s), x.wets(s));
                break;
            case 6:
                same("judge(" + s + ")", p.judge(s), x.judge(s));
                break;
            default:
                writeSorrows(random.nextInt(4));
        }
    }

    private void writeSorrows(int s) {
        int n = Math.max(0, p.w.souls.size() + (random.nextInt(3) == 0 ? random.nextInt(3) - 1 : 0));
        beginSheet(s, 8 << random.nextInt(3), n);
        for (int i = 0; i < n; i++) {
            int sorrow = i < p.w.souls.size() ? p.w.souls.get(i).sorrow : 0;
            putInto(s, i, random.nextInt(12) == 0 ? sorrow ^ 1 : sorrow);
        }
        same("judge(" + s + ")", p.judge(s), x.judge(s));
    }

    /** A row that is mostly true of one who is of another KIND or SORROW. */
    private void stepGuesses() {
        int s = random.nextInt(4);
        int i = who();
        if (random.nextInt(4) == 0) {
            stepWaiting();
            return;
        }
        if (random.nextInt(3) > 0) {
            PlainCambric.World w = p.w.copy();
            if (i >= 0 && i < w.souls.size()) {
                if (random.nextBoolean()) {
                    w.souls.get(i).kind = random.nextInt(7);
                } else {
                    w.souls.get(i).sorrow = random.nextInt(100);
                }
            }
            int n = random.nextInt(9);
            beginSheet(s, 8 << random.nextInt(3), n);
            for (int k = 0; k < n; k++) {
                putInto(s, k, w.behind(k + 1).sum() + (random.nextInt(30) == 0 ? 1 : 0));
            }
        }
        int sheet = random.nextInt(9) == 0 ? pick(3) : s;
        int what = pick(1);
        same("which(" + sheet + ", " + i + ")", p.which(sheet, i), x.which(sheet, i));
        same("sorry(" + sheet + ", " + i + ", " + what + ")", p.sorry(sheet, i, what), x.sorry(sheet, i, what));
    }

    private void stepWaiting() {
        int n = random.nextInt(8) == 0 ? 22 : random.nextInt(6);
        for (int k = 0; k < n; k++) {
            int v = p.w.behind(Math.min(60, p.w.waiting.size() + 1)).sum() + (random.nextInt(12) == 0 ? 1 : 0);
            same("tell(" + v + ")", p.tell(v), x.tell(v));
        }
        if (random.nextInt(4) > 0) {
            same("check()", p.check(), x.check());
        }
    }

    private void stepVoicesAndImages() {
        int what = pick(10);
        int k = pick(5);
        switch (random.nextInt(6)) {
            case 0:
            case 1:
                int i = who();
                int act = pick(3);
                int v = random.nextBoolean() ? random.nextInt(20) - 10 : random.nextInt();
                same("voice(" + i + ", " + act + ", " + v + ")", p.voice(i, act, v), x.voice(i, act, v));
                for (int t = 0; t < 9; t++) {
                    same("trace(" + t + ")", p.trace(t), x.trace(t));
                }
                break;
            case 2:
                same("image()", p.image(), x.image());
                break;
            case 3:
                if (random.nextInt(3) == 0) {
                    same("restore()", p.restore(), x.restore());
                }
                break;
            case 4:
                same("told(" + k + ")", p.told(k), x.told(k));
                break;
            default:
                same("count(" + what + ")", p.count(what), x.count(what));
        }
    }

    private static String between(Random r, String[] signs, int most, List<String> parts) {
        StringBuilder b = new StringBuilder(parts.get(0));
        for (int i = 1; i < parts.size() && i < most; i++) {
            b.append(signs[r.nextInt(signs.length)]).append(parts.get(i));
        }
        return b.toString();
    }

    private String randomText(String names, int level, int deep) {
        if (level < 5) {
            String[][] signs = {{"|"}, {"&"}, {"<", "=", ">"}, {"+", "-"}, {"*", "/", "%"}};
            List<String> parts = new ArrayList<>();
            int n = random.nextInt(3) == 0 ? 2 : 1;
            n += level != 2 && random.nextInt(9) == 0 ? 1 : 0;
            for (int i = 0; i < n; i++) {
                parts.add(randomText(names, level + 1, deep));
            }
            return between(random, signs[level], 3, parts);
        }
        switch (random.nextInt(deep < 6 ? 6 : 4)) {
            case 0:
            case 1:
                return "" + random.nextInt(random.nextBoolean() ? 30 : 10000);
            case 2:
            case 3:
                return "" + names.charAt(random.nextInt(3));
            case 4:
                return "!" + randomText(names, 5, deep + 1);
            default:
                return "(" + randomText(names, 0, deep + 1) + ")";
        }
    }

    private void stepText() {
        int use = random.nextInt(2);
        String t = randomText(use == 0 ? "wsy" : "wny", 0, 0);
        if (random.nextInt(2) == 0 && !t.isEmpty()) {
            int at = random.nextInt(t.length() + 1);
            String signs = "|&<=>+-*/%!()wsny0123456789 x";
            String put = "" + signs.charAt(random.nextInt(signs.length()));
            t = t.substring(0, at) + (random.nextBoolean() ? put : "") + t.substring(Math.min(t.length(), at + random.nextInt(2)));
        }
        for (int i = 0; i < t.length() && i < 56; i += 8) {
            int n = Math.min(8, t.length() - i);
            long word = 0;
            for (int k = 0; k < n; k++) {
                word |= (long) t.charAt(i + k) << 8 * k;
            }
            n = random.nextInt(60) == 0 ? pick(9) : n;
            same("feed(" + word + ", " + n + ")", p.feed(word, n), x.feed(word, n));
        }
        int of = random.nextInt(30) == 0 ? pick(2) : use;
        same("text(" + of + ") of " + t, p.text(of), x.text(of));
        for (int k = 0; k < 3; k++) {
            int a = random.nextInt(3) == 0 ? random.nextInt() : random.nextInt(100);
            int b = random.nextInt(5) - 1;
            int c = random.nextInt(8);
            int u = random.nextInt(30) == 0 ? pick(2) : use;
            same("law(" + u + ", " + a + ", " + b + ", " + c + ") of " + t, p.law(u, a, b, c), x.law(u, a, b, c));
        }
    }
}

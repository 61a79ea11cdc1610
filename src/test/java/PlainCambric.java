import java.util.ArrayDeque;
import java.util.ArrayList;
import java.util.Arrays;
import java.util.HashMap;
import java.util.List;
import java.util.Map;

/**
 * The document once more, as plainly as the Java library allows and by other ways than GreatCambric:
 * texts are split as strings, foldings are piles of paper, sets are lists. ModelTest compares the two.
 */
final class PlainCambric {
    static final int LOW = -1000000000;

    static final class Soul {
        int kind, m, sorrow, at;

        Soul(int kind, int m, int sorrow, int at) {
            this.kind = kind;
            this.m = m;
            this.sorrow = sorrow;
            this.at = at;
        }

        Soul copy() {
            return new Soul(kind, m, sorrow, at);
        }
    }

    static final class World {
        int[][] wet = new int[4][4];
        boolean[][] torn = new boolean[4][4];
        int year = 0;
        int[] list = {0, 1, 2, 3, 4, 5};
        List<Soul> souls = new ArrayList<>();
        String[] texts = new String[2];
        String tape = "";
        List<Integer> waiting = new ArrayList<>();
        int z = 1;

        World copy() {
            World w = new World();
            for (int y = 0; y < 4; y++) {
                w.wet[y] = wet[y].clone();
                w.torn[y] = torn[y].clone();
            }
            w.year = year;
            w.list = list.clone();
            for (Soul s : souls) {
                w.souls.add(s.copy());
            }
            w.texts = texts.clone();
            w.tape = tape;
            w.waiting = new ArrayList<>(waiting);
            w.z = z;
            return w;
        }

        int sum() {
            return Arrays.stream(wet).flatMapToInt(Arrays::stream).sum();
        }

        int sorrow() {
            return souls.stream().mapToInt(s -> s.sorrow).sum();
        }

        List<Integer> wetCells() {
            List<Integer> cells = new ArrayList<>();
            for (int c = 0; c < 16; c++) {
                if (wet[c / 4][c % 4] != 0) {
                    cells.add(c);
                }
            }
            return cells;
        }

        List<Integer> tornCells() {
            List<Integer> cells = new ArrayList<>();
            for (int c = 0; c < 16; c++) {
                if (torn[c / 4][c % 4]) {
                    cells.add(c);
                }
            }
            return cells;
        }

        int tornOrDryBeside(int c) {
            int n = 0;
            for (int d = 0; d < 16; d++) {
                if (besides(c, d) && (torn[d / 4][d % 4] || wet[d / 4][d % 4] == 0)) {
                    n++;
                }
            }
            return n;
        }

        int wept(Soul s) {
            return give(texts, 0, weeps(s.kind, s.m, s.sorrow), s.sorrow, year % 8);
        }

        void pass() {
            if (list[year % 6] < souls.size()) {
                Soul s = souls.get(list[year % 6]);
                int wept = wept(s);
                if (!torn[s.at / 4][s.at % 4]) {
                    wet[s.at / 4][s.at % 4] = hold(wet[s.at / 4][s.at % 4] + wept);
                }
                s.sorrow = hold(s.sorrow - eases(s.kind, s.m, wept));
            }
            World two = copy();
            for (int a = 0; a < 16; a++) {
                for (int b = 0; b < 16; b++) {
                    if (besides(a, b) && !torn[a / 4][a % 4] && !torn[b / 4][b % 4]
                            && two.wet[a / 4][a % 4] - two.wet[b / 4][b % 4] >= 10) {
                        wet[a / 4][a % 4]--;
                        wet[b / 4][b % 4]++;
                    }
                }
            }
            holdAll();
            World three = copy();
            for (int c = 0; c < 16; c++) {
                wet[c / 4][c % 4] -= give(texts, 1, three.wet[c / 4][c % 4], three.tornOrDryBeside(c), year % 8);
            }
            holdAll();
            for (Soul s : souls) {
                s.sorrow = hold(s.sorrow + grieves(s.kind, s.m, year));
            }
            year++;
        }

        void holdAll() {
            for (int c = 0; c < 16; c++) {
                wet[c / 4][c % 4] = hold(wet[c / 4][c % 4]);
            }
        }

        World behind(int n) {
            World w = copy();
            for (int i = 0; i < n; i++) {
                w.pass();
            }
            return w;
        }

        int draw() {
            z = z * 1103515245 + 12345;
            return z >>> 8;
        }
    }

    World w = new World();
    World image = null;
    int images = 0;
    Integer[] sheetBits = new Integer[4];
    int[][] sheets = new int[4][];
    List<Integer> trace = new ArrayList<>();
    int[] errors = new int[6];

    static int hold(int v) {
        return v < 0 ? 0 : v > 99 ? 99 : v;
    }

    static boolean besides(int a, int b) {
        return Math.abs(a / 4 - b / 4) + Math.abs(a % 4 - b % 4) == 1;
    }

    static int weeps(int kind, int m, int s) {
        int plain = s / 4 + 1;
        switch (kind) {
            case 0: return plain;
            case 1: return 2 * plain;
            case 2: return plain < 3 ? 0 : plain - 3;
            case 3: return s < 50 ? 0 : plain;
            case 4: return 2 * plain + 10;
            case 5: return (plain < 3 ? 0 : plain - 3) + m;
            default: return s < 50 || plain < m ? 0 : plain - m;
        }
    }

    static int eases(int kind, int m, int wept) {
        switch (kind) {
            case 2: case 5: return wept / 2 + 3;
            case 4: return 0;
            case 6: return wept / 2 + m;
            default: return wept / 2;
        }
    }

    static int grieves(int kind, int m, int year) {
        switch (kind) {
            case 1: return 5;
            case 3: case 6: return 1;
            case 4: return 5 + m / 3;
            case 5: return year % 2 == 0 ? 2 : 0;
            default: return 2;
        }
    }

    // ---- texts, split at the last sign that stands in no ( )

    static int give(String[] texts, int use, int a, int b, int c) {
        String t = texts[use];
        if (t == null) {
            return use == 0 ? hold(a) : 3;
        }
        return hold(value(t, use == 0 ? "wsy" : "wny", new int[] {a, b, c}));
    }

    static int lastOf(String t, String signs) {
        int deep = 0;
        for (int i = t.length() - 1; i >= 0; i--) {
            char ch = t.charAt(i);
            if (ch == ')') {
                deep++;
            } else if (ch == '(') {
                deep--;
            } else if (deep == 0 && signs.indexOf(ch) >= 0) {
                return i;
            }
        }
        return -1;
    }

    static final String[] SIGNS = {"|", "&", "<=>", "+-", "*/%"};

    static int value(String t, String names, int[] given) {
        for (String signs : SIGNS) {
            int at = lastOf(t, signs);
            if (at >= 0) {
                int l = value(t.substring(0, at), names, given);
                int r = value(t.substring(at + 1), names, given);
                switch (t.charAt(at)) {
                    case '|': return l != 0 | r != 0 ? 1 : 0;
                    case '&': return l != 0 & r != 0 ? 1 : 0;
                    case '<': return l < r ? 1 : 0;
                    case '=': return l == r ? 1 : 0;
                    case '>': return l > r ? 1 : 0;
                    case '+': return l + r;
                    case '-': return l - r;
                    case '*': return l * r;
                    case '/': return r == 0 ? 0 : (int) ((long) l / r);
                    default: return r == 0 ? 0 : (int) ((long) l % r);
                }
            }
        }
        if (t.charAt(0) == '!') {
            return value(t.substring(1), names, given) == 0 ? 1 : 0;
        }
        if (t.charAt(0) == '(') {
            return value(t.substring(1, t.length() - 1), names, given);
        }
        if (names.indexOf(t.charAt(0)) >= 0) {
            return given[names.indexOf(t.charAt(0))];
        }
        return Integer.parseInt(t);
    }

    static boolean isText(String t, String names, int level, int open) {
        if (t.isEmpty()) {
            return false;
        }
        if (level < SIGNS.length) {
            int at = lastOf(t, SIGNS[level]);
            if (at < 0) {
                return isText(t, names, level + 1, open);
            }
            // What stands left of < = > is a sum; left of the others it may hold the same signs again.
            return isText(t.substring(0, at), names, level == 2 ? 3 : level, open)
                    && isText(t.substring(at + 1), names, level + 1, open);
        }
        if (t.charAt(0) == '!') {
            return open < 5 && isText(t.substring(1), names, level, open + 1);
        }
        if (t.charAt(0) == '(') {
            return open < 5 && t.endsWith(")") && balanced(t) && isText(t.substring(1, t.length() - 1), names, 0, open + 1);
        }
        return t.matches("[0-9]{1,4}") || t.length() == 1 && names.indexOf(t.charAt(0)) >= 0;
    }

    /** Whether the first ( ends with the last byte. */
    static boolean balanced(String t) {
        int deep = 0;
        for (int i = 0; i < t.length(); i++) {
            deep += t.charAt(i) == '(' ? 1 : t.charAt(i) == ')' ? -1 : 0;
            if (deep == 0) {
                return i == t.length() - 1;
            }
        }
        return false;
    }

    static boolean goesOn(String start, String names) {
        for (String rest : new String[] {"", "1"}) {
            for (int closed = 0; closed <= 5; closed++) {
                if (isText(start + rest + ")".repeat(closed), names, 0, 0)) {
                    return true;
                }
            }
        }
        return false;
    }

    static int fault(String t, int use) {
        String names = use == 0 ? "wsy" : "wny";
        if (isText(t, names, 0, 0)) {
            return -1;
        }
        for (int i = 0; i < t.length(); i++) {
            if (!goesOn(t.substring(0, i + 1), names)) {
                return i;
            }
        }
        return t.length();
    }

    // ---- acts

    int refuse(int k) {
        errors[k]++;
        return LOW - k;
    }

    static boolean in(int v, int most) {
        return v >= 0 && v <= most;
    }

    boolean soul(int i) {
        return in(i, w.souls.size() - 1);
    }

    int cell(int c, int what, int v) {
        if (!in(c, 15) || !in(what, 1) || !in(v, what == 0 ? 99 : 1)) {
            return refuse(1);
        }
        if (what == 0) {
            int was = w.wet[c / 4][c % 4];
            w.wet[c / 4][c % 4] = v;
            return was;
        }
        int was = w.torn[c / 4][c % 4] ? 1 : 0;
        w.torn[c / 4][c % 4] = v == 1;
        return was;
    }

    int ofCell(int c, int what) {
        if (!in(c, 15) || !in(what, 3)) {
            return refuse(1);
        }
        if (what == 0) {
            return w.wet[c / 4][c % 4];
        }
        if (what == 1) {
            return w.torn[c / 4][c % 4] ? 1 : 0;
        }
        if (what == 3) {
            return w.tornOrDryBeside(c);
        }
        int set = 0;
        for (int i = 0; i < w.souls.size(); i++) {
            set += w.souls.get(i).at == c ? 1 << i : 0;
        }
        return set;
    }

    int list(int p, int s) {
        if (!in(p, 5) || !in(s, 7)) {
            return refuse(1);
        }
        int was = w.list[p];
        w.list[p] = s;
        return was;
    }

    int ofList(int p) {
        return in(p, 5) ? w.list[p] : refuse(1);
    }

    int mourner(int km, int sorrow, int c) {
        if (!in(km, 69) || !in(sorrow, 99) || !in(c, 15)) {
            return refuse(1);
        }
        if (w.souls.size() == 8) {
            return refuse(4);
        }
        w.souls.add(new Soul(km / 10, km % 10, sorrow, c));
        return w.souls.size() - 1;
    }

    int ofMourner(int i, int what) {
        if (!soul(i) || !in(what, 6)) {
            return refuse(1);
        }
        Soul s = w.souls.get(i);
        int[] all = {s.kind, s.m, s.sorrow, s.at, w.wept(s), eases(s.kind, s.m, w.wept(s)), grieves(s.kind, s.m, w.year)};
        return all[what];
    }

    int change(int i, int what, int v) {
        if (!soul(i) || !in(what, 1) || !in(v, what == 0 ? 99 : 15)) {
            return refuse(1);
        }
        Soul s = w.souls.get(i);
        int was = what == 0 ? s.sorrow : s.at;
        if (what == 0) {
            s.sorrow = v;
        } else {
            s.at = v;
        }
        return was;
    }

    int become(int i, int km) {
        if (!soul(i) || !in(km, 69)) {
            return refuse(1);
        }
        Soul s = w.souls.get(i);
        int was = s.kind;
        s.kind = km / 10;
        s.m = km % 10;
        return was;
    }

    static int[][] linesOfKinds() {
        return new int[][] {{0}, {1, 0}, {2, 0}, {3, 0}, {4, 1, 0}, {5, 2, 0}, {6, 3, 0}};
    }

    int as(int i, int kind) {
        if (!soul(i) || !in(kind, 6)) {
            return refuse(1);
        }
        Soul s = w.souls.get(i);
        return Arrays.stream(linesOfKinds()[s.kind]).anyMatch(k -> k == kind) ? s.m : refuse(5);
    }

    int feed(long word, int n) {
        if (n < 1 || n > 8) {
            return refuse(1);
        }
        if (w.tape.length() + n > 50) {
            return refuse(4);
        }
        for (int i = 0; i < n; i++) {
            w.tape += (char) (word & 255);
            word >>= 8;
        }
        return w.tape.length();
    }

    int text(int use) {
        if (!in(use, 1)) {
            return refuse(1);
        }
        String t = w.tape;
        w.tape = "";
        int fault = fault(t, use);
        if (fault >= 0) {
            return -10 - fault;
        }
        w.texts[use] = t;
        return 1;
    }

    int law(int use, int a, int b, int c) {
        return in(use, 1) ? give(w.texts, use, a, b, c) : refuse(1);
    }

    int years(int n) {
        if (n < 1 || n > 60) {
            return refuse(1);
        }
        if (w.year + n > 9999) {
            return refuse(3);
        }
        w = w.behind(n);
        return w.sum();
    }

    int loose(int n) {
        if (n < 1 || n > 40) {
            return refuse(1);
        }
        if (w.year + n > 9999) {
            return refuse(3);
        }
        for (int i = 0; i < n; i++) {
            int who = w.draw() % 8;
            w.list[w.year % 6] = who;
            int cell = w.draw() % 16;
            if (who < w.souls.size()) {
                w.souls.get(who).at = cell;
            }
            w.pass();
        }
        return w.sum();
    }

    int then(int n, int c) {
        return in(n, 60) && in(c, 15) ? w.behind(n).wet[c / 4][c % 4] : refuse(1);
    }

    int all(int n, int what) {
        if (!in(n, 60) || !in(what, 2)) {
            return refuse(1);
        }
        World b = w.behind(n);
        return what == 0 ? b.sum() : what == 1 ? b.sorrow() : b.wetCells().size();
    }

    int dry(int c) {
        if (!in(c, 15)) {
            return refuse(1);
        }
        for (int n = 0; n <= 60; n++) {
            if (w.behind(n).wet[c / 4][c % 4] == 0) {
                return n;
            }
        }
        return refuse(2);
    }

    int eased(int i, int v) {
        if (!soul(i) || !in(v, 99)) {
            return refuse(1);
        }
        for (int n = 0; n <= 60; n++) {
            if (w.behind(n).souls.get(i).sorrow <= v) {
                return n;
            }
        }
        return refuse(2);
    }

    static int leastAt(int[] wets) {
        int least = Arrays.stream(wets).min().getAsInt();
        for (int i = 0; ; i++) {
            if (wets[i] == least) {
                return i;
            }
        }
    }

    int cellFor(int i, int n) {
        if (!soul(i) || !in(n, 60)) {
            return refuse(1);
        }
        int[] wets = new int[16];
        for (int c = 0; c < 16; c++) {
            World t = w.copy();
            t.souls.get(i).at = c;
            wets[c] = t.behind(n).sum();
        }
        return leastAt(wets);
    }

    int comesFor(int p, int n) {
        if (!in(p, 5) || !in(n, 60)) {
            return refuse(1);
        }
        int[] wets = new int[8];
        for (int i = 0; i < 8; i++) {
            World t = w.copy();
            t.list[p] = i;
            wets[i] = t.behind(n).sum();
        }
        return leastAt(wets);
    }

    int kindFor(int i, int n) {
        if (!soul(i) || !in(n, 60)) {
            return refuse(1);
        }
        int[] wets = new int[7];
        for (int k = 0; k < 7; k++) {
            World t = w.copy();
            t.souls.get(i).kind = k;
            wets[k] = t.behind(n).sum();
        }
        return leastAt(wets);
    }

    // ---- foldings: piles of cells, the lowest first; null: no such

    static List<List<List<Integer>>> fold(String folding) {
        if (!folding.matches("1[1-4]{0,4}") || folding.substring(1).replaceAll("[34]", "").length() > 2
                || folding.substring(1).replaceAll("[12]", "").length() > 2) {
            return null;
        }
        List<List<List<Integer>>> cloth = new ArrayList<>();
        for (int y = 0; y < 4; y++) {
            cloth.add(new ArrayList<>());
            for (int x = 0; x < 4; x++) {
                cloth.get(y).add(new ArrayList<>(List.of(4 * y + x)));
            }
        }
        for (char f : folding.substring(1).toCharArray()) {
            boolean down = f == '3' || f == '4';
            if (down) {
                cloth = turned(cloth);
            }
            List<List<List<Integer>>> next = new ArrayList<>();
            for (List<List<Integer>> row : cloth) {
                int half = row.size() / 2;
                List<List<Integer>> left = row.subList(0, half);
                List<List<Integer>> right = row.subList(half, row.size());
                List<List<Integer>> stays = f == '1' || f == '3' ? right : left;
                List<List<Integer>> over = new ArrayList<>(f == '1' || f == '3' ? left : right);
                java.util.Collections.reverse(over);
                List<List<Integer>> piles = new ArrayList<>();
                for (int i = 0; i < half; i++) {
                    List<Integer> pile = new ArrayList<>(stays.get(i));
                    List<Integer> upside = new ArrayList<>(over.get(i));
                    java.util.Collections.reverse(upside);
                    pile.addAll(upside);
                    piles.add(pile);
                }
                next.add(piles);
            }
            cloth = down ? turned(next) : next;
        }
        return cloth;
    }

    static List<List<List<Integer>>> turned(List<List<List<Integer>>> cloth) {
        List<List<List<Integer>>> t = new ArrayList<>();
        for (int x = 0; x < cloth.get(0).size(); x++) {
            List<List<Integer>> row = new ArrayList<>();
            for (List<List<Integer>> r : cloth) {
                row.add(r.get(x));
            }
            t.add(row);
        }
        return t;
    }

    int folded(int folding, int c, int what) {
        List<List<List<Integer>>> cloth = fold(Integer.toString(folding));
        if (!in(c, 15) || !in(what, 1) || cloth == null) {
            return refuse(1);
        }
        int pile = 0;
        for (List<List<Integer>> row : cloth) {
            for (List<Integer> p : row) {
                if (p.contains(c)) {
                    return what == 0 ? pile : p.indexOf(c);
                }
                pile++;
            }
        }
        throw new IllegalStateException();
    }

    int topFor(int c) {
        if (!in(c, 15)) {
            return refuse(1);
        }
        return TOPS.computeIfAbsent(c, PlainCambric::searchTop);
    }

    private static final Map<Integer, Integer> TOPS = new HashMap<>();

    private static int searchTop(int c) {
        for (int folding = 10000; ; folding++) {
            List<List<List<Integer>>> cloth = fold(Integer.toString(folding));
            if (cloth != null && cloth.get(0).get(0).size() == 16 && cloth.get(0).get(0).get(15) == c) {
                return folding;
            }
        }
    }

    // ---- ways, parts, the game

    static int stepsFrom(int a, int b, List<Integer> torn) {
        Map<Integer, Integer> far = new HashMap<>(Map.of(a, 0));
        ArrayDeque<Integer> queue = new ArrayDeque<>(List.of(a));
        while (!queue.isEmpty()) {
            int c = queue.poll();
            for (int d = 0; d < 16; d++) {
                if (besides(c, d) && !torn.contains(d) && !far.containsKey(d)) {
                    far.put(d, far.get(c) + 1);
                    queue.add(d);
                }
            }
        }
        return far.getOrDefault(b, -1);
    }

    int route(int a, int b) {
        if (!in(a, 15) || !in(b, 15)) {
            return refuse(1);
        }
        List<Integer> torn = w.tornCells();
        if (torn.contains(a) || torn.contains(b)) {
            return refuse(3);
        }
        int steps = stepsFrom(a, b, torn);
        return steps < 0 ? refuse(2) : steps;
    }

    /** Each CELL takes the least label beside it, until nothing changes: one PART, one label. */
    static int partsBy(List<Integer> torn) {
        int[] label = new int[16];
        for (int c = 0; c < 16; c++) {
            label[c] = torn.contains(c) ? -1 : c;
        }
        for (int round = 0; round < 16; round++) {
            for (int a = 0; a < 16; a++) {
                for (int b = 0; b < 16; b++) {
                    if (besides(a, b) && label[a] >= 0 && label[b] >= 0) {
                        label[a] = Math.min(label[a], label[b]);
                    }
                }
            }
        }
        return (int) Arrays.stream(label).filter(l -> l >= 0).distinct().count();
    }

    int parts() {
        return partsBy(w.tornCells());
    }

    int mends() {
        List<Integer> torn = w.tornCells();
        if (torn.size() > 10) {
            return refuse(3);
        }
        int set = setOf(torn);
        for (int many = 0; many <= 10; many++) {
            for (int mended = 0; mended <= set; mended++) {
                if ((mended & ~set) == 0 && Integer.bitCount(mended) == many) {
                    List<Integer> still = new ArrayList<>();
                    for (int c : torn) {
                        if ((mended >> c & 1) == 0) {
                            still.add(c);
                        }
                    }
                    if (partsBy(still) <= 1) {
                        return mended;
                    }
                }
            }
        }
        throw new IllegalStateException();
    }

    static int setOf(List<Integer> cells) {
        return cells.stream().mapToInt(c -> 1 << c).sum();
    }

    static int bestDrying(int wet, Map<Integer, Integer> known) {
        Integer before = known.get(wet);
        if (before != null) {
            return before;
        }
        int best = 0;
        for (int a = 0; a < 16; a++) {
            for (int b = a; b < 16; b++) {
                int set = 1 << a | 1 << b;
                boolean may = (set & ~wet) == 0 && (a == b || besides(a, b));
                if (may && bestDrying(wet - set, known) == 0 && (best == 0 || set < best)) {
                    best = set;
                }
            }
        }
        known.put(wet, best);
        return best;
    }

    int game(int what) {
        if (!in(what, 1)) {
            return refuse(1);
        }
        if (w.wetCells().size() > 10) {
            return refuse(3);
        }
        int best = bestDrying(setOf(w.wetCells()), new HashMap<>());
        return what == 0 ? (best > 0 ? 1 : 0) : best > 0 ? best : refuse(2);
    }

    int firstWrong(World from, int[] row) {
        for (int i = 0; i < row.length; i++) {
            if (from.behind(i + 1).sum() != row[i]) {
                return i;
            }
        }
        return -1;
    }

    int which(int sheet, int i) {
        if (!in(sheet, 3) || !soul(i)) {
            return refuse(1);
        }
        if (sheets[sheet] == null) {
            return refuse(2);
        }
        int set = 0;
        for (int k = 0; k < 7; k++) {
            World t = w.copy();
            t.souls.get(i).kind = k;
            set += firstWrong(t, sheets[sheet]) < 0 ? 1 << k : 0;
        }
        return set;
    }

    int sorry(int sheet, int i, int what) {
        if (!in(sheet, 3) || !soul(i) || !in(what, 1)) {
            return refuse(1);
        }
        if (sheets[sheet] == null) {
            return refuse(2);
        }
        List<Integer> fits = new ArrayList<>();
        for (int s = 0; s < 100; s++) {
            World t = w.copy();
            t.souls.get(i).sorrow = s;
            if (firstWrong(t, sheets[sheet]) < 0) {
                fits.add(s);
            }
        }
        return what == 0 ? fits.size() : fits.isEmpty() ? refuse(2) : fits.get(0);
    }

    int odds(int n, int v, int part) {
        if (!in(n, 30) || !in(v, 1584) || !in(part, 1)) {
            return refuse(1);
        }
        int hits = 0;
        for (int i = 0; i < 8; i++) {
            World t = w.copy();
            t.list[w.year % 6] = i;
            hits += t.behind(n).sum() <= v ? 1 : 0;
        }
        int below = 8;
        while (hits % 2 == 0 && below > 1) {
            hits /= 2;
            below /= 2;
        }
        return part == 0 ? hits : below;
    }

    int seed(int v) {
        int was = w.z;
        w.z = v;
        return was;
    }

    // ---- voices: the numbers of the BODIES that each KIND has itself, by voice; 0: it has none

    static final int[][] BODIES = {
        {10, 11, 12, 13}, {20, 0, 0, 0}, {0, 30, 0, 0}, {0, 0, 40, 0}, {0, 0, 0, 50}, {0, 60, 0, 0}, {0, 0, 70, 71}};

    int say(int act, int x, int of, int from, int n, int m) {
        int kind = of;
        int body = 0;
        boolean mayBe = false;
        int owner = -1;
        int above = -1;
        for (int k : linesOfKinds()[kind]) {
            mayBe |= k == from;
            if (mayBe && body == 0) {
                body = BODIES[k][act];
                owner = k;
            }
        }
        int[] line = linesOfKinds()[kind];
        for (int i = 0; i + 1 < line.length; i++) {
            above = line[i] == owner ? line[i + 1] : above;
        }
        if (trace.size() < 40) {
            trace.add(body);
        }
        switch (body) {
            case 10: return x + n;
            case 11: return say(0, x, of, of, n, m) * 2;
            case 12: return x - m;
            case 13: return say(1, x, of, of, n, m) ^ say(2, x, of, of, n, m);
            case 20: return say(0, x, of, above, n, m) * 3;
            case 30: return say(1, x, of, above, n, m) - say(2, 1, of, of, n, m);
            case 40: return -say(2, x, of, above, n, m);
            case 50: return say(3, x, of, above, n, m) - say(0, 2, of, of, n, m);
            case 60: return say(1, x + 1, of, above, n, m);
            case 70: return say(2, x, of, above, n, m) ^ n;
            case 71: return say(1, x, of, of, n, m) - say(3, x, of, above, n, m);
            default: throw new IllegalStateException();
        }
    }

    int voice(int i, int act, int x) {
        if (!soul(i) || !in(act, 3)) {
            return refuse(1);
        }
        trace.clear();
        Soul s = w.souls.get(i);
        return say(act, x, s.kind, s.kind, i, s.m);
    }

    int trace(int i) {
        return in(i, trace.size() - 1) ? trace.get(i) : refuse(2);
    }

    // ---- sheets

    int sheet(int s, int bits, int n) {
        if (!in(s, 3) || !List.of(0, 8, 16, 32).contains(bits)) {
            return refuse(1);
        }
        if (bits == 0) {
            sheets[s] = null;
            return 1;
        }
        if (n < 0) {
            return refuse(3);
        }
        if (n > 40) {
            return refuse(1);
        }
        sheets[s] = new int[n];
        sheetBits[s] = bits;
        return 1;
    }

    int put(int s, int i, int v) {
        if (!in(s, 3)) {
            return refuse(1);
        }
        if (sheets[s] == null) {
            return refuse(2);
        }
        if (!in(i, sheets[s].length - 1)) {
            return refuse(1);
        }
        int gone = 32 - sheetBits[s];
        sheets[s][i] = v << gone >> gone;
        return 1;
    }

    int move(int s, int i, int o, int j, int n) {
        if (!in(s, 3) || !in(o, 3)) {
            return refuse(1);
        }
        if (sheets[s] == null || sheets[o] == null) {
            return refuse(2);
        }
        if (!sheetBits[s].equals(sheetBits[o])) {
            return refuse(5);
        }
        if (n < 0 || i < 0 || j < 0 || (long) i + n > sheets[s].length || (long) j + n > sheets[o].length) {
            return refuse(1);
        }
        int[] were = sheets[s].clone();
        for (int k = 0; k < n; k++) {
            sheets[o][j + k] = were[i + k];
        }
        return n;
    }

    int wets(int s) {
        if (!in(s, 3)) {
            return refuse(1);
        }
        if (sheets[s] == null) {
            return refuse(2);
        }
        int c = 0;
        while (c < 16 && c < sheets[s].length && in(sheets[s][c], 99)) {
            w.wet[c / 4][c % 4] = sheets[s][c];
            c++;
        }
        return c;
    }

    int judge(int s) {
        if (!in(s, 3)) {
            return refuse(1);
        }
        if (sheets[s] == null) {
            return refuse(2);
        }
        for (int i = 0; i < 41; i++) {
            boolean number = i < sheets[s].length;
            boolean soul = i < w.souls.size();
            if (number != soul || number && sheets[s][i] != w.souls.get(i).sorrow) {
                return i;
            }
        }
        return -1;
    }

    int image() {
        image = w.copy();
        return ++images;
    }

    int restore() {
        if (image == null) {
            return refuse(2);
        }
        w = image.copy();
        return w.year;
    }

    int tell(int v) {
        if (w.waiting.size() == 20) {
            return refuse(4);
        }
        w.waiting.add(v);
        return w.waiting.size();
    }

    int check() {
        int wrong = firstWrong(w, w.waiting.stream().mapToInt(v -> v).toArray());
        w.waiting.clear();
        return wrong < 0 ? 0 : 1 + wrong;
    }

    int count(int what) {
        if (!in(what, 10)) {
            return refuse(1);
        }
        int[] all = {w.souls.size(), w.year, w.sum(), w.wetCells().size(), setOf(w.tornCells()), w.sorrow(), parts(),
            w.tape.length(), w.waiting.size(), trace.size(), w.z};
        return all[what];
    }

    int told(int k) {
        return k >= 1 && k <= 5 ? errors[k] : refuse(1);
    }
}

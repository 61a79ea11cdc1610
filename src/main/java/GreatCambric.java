/**
 * The great cambric of the document (../shared/DOC.md): a cloth of sixteen cells, those who weep on
 * it, and what would come of that. The words in capitals are the document's.
 */
public final class GreatCambric {
    private static final int LOW = -1000000000;
    private static final int BEYOND = 1;
    private static final int NONE = 2;
    private static final int STATE = 3;
    private static final int FULL = 4;
    private static final int KIND = 5;

    private static final int CELLS = 16;
    private static final int SIDE = 4;
    private static final int ALL_CELLS = 0xFFFF;
    private static final int LEFT_COLUMN = 0x1111;
    private static final int RIGHT_COLUMN = 0x8888;
    private static final int PLACES = 6;
    private static final int MOST_MOURNERS = 8;
    private static final int KINDS = 7;
    /** The KIND above each KIND; none stands above 0. */
    private static final int[] KIND_ABOVE = {-1, 0, 0, 0, 1, 2, 3};

    private static final int MOST_HELD = 99;
    private static final int LAST_YEAR = 9999;
    private static final int FARTHEST = 60;
    private static final int FARTHEST_ODDS = 30;
    private static final int MOST_WET = CELLS * MOST_HELD;
    private static final int MOST_LOOSE = 40;

    private static final int WEPT = 0;
    private static final int DRIES = 1;
    private static final int USUAL_DRYING = 3;
    private static final int LONGEST_TAPE = 50;
    private static final int WORD_BYTES = 8;

    private static final int SHEETS = 4;
    private static final int LONGEST_SHEET = 40;
    private static final int LONGEST_TRACE = 40;
    private static final int MOST_WAITING = 20;
    private static final int MOST_SEARCHED = 10;

    /** What is supposed of the one who is asked for, or (COMING) of a place of THE LIST. */
    private static final int CELL_OF = 0;
    private static final int COMING = 1;
    private static final int KIND_OF = 2;
    private static final int SORROW_OF = 3;

    private final Cloth now;
    private final Cloth thought;
    private final Cloth kept;
    private final Law draft;
    private final Row[] sheets;
    private final Voice speaker;
    private final int[] refusals;
    private final Row dryings;
    private final boolean[] wins;
    private int images;

    public GreatCambric() {
        Mourner[] kinds = {
            new Mourner(), new Widow(), new Sailor(), new Member(), new Queen(), new Middy(), new Laundress()
        };
        Law[] laws = {new Law(), new Law()};
        Law[] keptLaws = {new Law(), new Law()};
        now = new Cloth(kinds, laws);
        // What is only thought goes by the laws of now, so these two share them.
        thought = new Cloth(kinds, laws);
        kept = new Cloth(kinds, keptLaws);
        draft = new Law();
        sheets = new Row[SHEETS];
        for (int i = 0; i < SHEETS; i++) {
            sheets[i] = new Row(LONGEST_SHEET);
        }
        speaker = new Voice();
        refusals = new int[KIND + 1];
        dryings = new Row(CELLS * 3);
        wins = new boolean[1 << MOST_SEARCHED];
    }

    // ---- the cloth, the list

    public int cell(int cell, int what, int v) {
        if (!isCell(cell) || !upTo(1, what) || !upTo(what == 0 ? MOST_HELD : 1, v)) {
            return refused(BEYOND);
        }
        if (what == 0) {
            int was = now.wet[cell];
            now.wet[cell] = v;
            return was;
        }
        int was = now.torn >> cell & 1;
        now.torn = now.torn & ~(1 << cell) | v << cell;
        return was;
    }

    public int ofCell(int cell, int what) {
        if (!isCell(cell) || !upTo(3, what)) {
            return refused(BEYOND);
        }
        switch (what) {
            case 0:
                return now.wet[cell];
            case 1:
                return now.torn >> cell & 1;
            case 2:
                return now.thoseAt(cell);
            default:
                return Integer.bitCount(beside(cell) & now.tornOrDry());
        }
    }

    public int list(int place, int mourner) {
        if (!upTo(PLACES - 1, place) || !upTo(MOST_MOURNERS - 1, mourner)) {
            return refused(BEYOND);
        }
        int was = now.places[place];
        now.places[place] = mourner;
        return was;
    }

    public int ofList(int place) {
        return upTo(PLACES - 1, place) ? now.places[place] : refused(BEYOND);
    }

    // ---- mourners

    public int mourner(int km, int sorrow, int cell) {
        if (!isKindAndNumber(km) || !upTo(MOST_HELD, sorrow) || !isCell(cell)) {
            return refused(BEYOND);
        }
        if (now.mourners >= MOST_MOURNERS) {
            return refused(FULL);
        }
        int number = now.mourners;
        now.mourners++;
        now.kind[number] = km / 10;
        now.m[number] = km % 10;
        now.sorrow[number] = sorrow;
        now.at[number] = cell;
        return number;
    }

    public int ofMourner(int mourner, int what) {
        if (!isMourner(mourner) || !upTo(6, what)) {
            return refused(BEYOND);
        }
        int m = now.m[mourner];
        switch (what) {
            case 0:
                return now.kind[mourner];
            case 1:
                return m;
            case 2:
                return now.sorrow[mourner];
            case 3:
                return now.at[mourner];
            case 4:
                return now.weptBy(mourner);
            case 5:
                return now.kindOf(mourner).eases(m, now.weptBy(mourner));
            default:
                return now.kindOf(mourner).grieves(m, now.year);
        }
    }

    public int change(int mourner, int what, int v) {
        if (!isMourner(mourner) || !upTo(1, what) || !upTo(what == 0 ? MOST_HELD : CELLS - 1, v)) {
            return refused(BEYOND);
        }
        int[] changed = what == 0 ? now.sorrow : now.at;
        int was = changed[mourner];
        changed[mourner] = v;
        return was;
    }

    public int become(int mourner, int km) {
        if (!isMourner(mourner) || !isKindAndNumber(km)) {
            return refused(BEYOND);
        }
        int was = now.kind[mourner];
        now.kind[mourner] = km / 10;
        now.m[mourner] = km % 10;
        return was;
    }

    public int as(int mourner, int kind) {
        if (!isMourner(mourner) || !upTo(KINDS - 1, kind)) {
            return refused(BEYOND);
        }
        return isUnder(now.kind[mourner], kind) ? now.m[mourner] : refused(KIND);
    }

    // ---- texts

    public int feed(long word, int n) {
        if (n < 1 || n > WORD_BYTES) {
            return refused(BEYOND);
        }
        if (now.tape.length + n > LONGEST_TAPE) {
            return refused(FULL);
        }
        for (int i = 0; i < n; i++) {
            now.tape.add((int) (word >>> 8 * i) & 0xFF);
        }
        return now.tape.length;
    }

    public int text(int use) {
        if (!isUse(use)) {
            return refused(BEYOND);
        }
        int fault = draft.read(now.tape, use);
        now.tape.length = 0;
        if (fault >= 0) {
            return -10 - fault;
        }
        now.laws[use].code.takes(draft.code);
        return 1;
    }

    public int law(int use, int a, int b, int c) {
        return isUse(use) ? now.given(use, a, b, c) : refused(BEYOND);
    }

    // ---- years

    public int years(int n) {
        if (n < 1 || n > FARTHEST) {
            return refused(BEYOND);
        }
        if (now.year + n > LAST_YEAR) {
            return refused(STATE);
        }
        for (int i = 0; i < n; i++) {
            now.passYear();
        }
        return now.wetOfAll();
    }

    public int loose(int n) {
        if (n < 1 || n > MOST_LOOSE) {
            return refused(BEYOND);
        }
        if (now.year + n > LAST_YEAR) {
            return refused(STATE);
        }
        for (int i = 0; i < n; i++) {
            now.drawWhoAndWhere();
            now.passYear();
        }
        return now.wetOfAll();
    }

    // ---- what would be

    public int then(int n, int cell) {
        if (!upTo(FARTHEST, n) || !isCell(cell)) {
            return refused(BEYOND);
        }
        thinkBehind(n);
        return thought.wet[cell];
    }

    public int all(int n, int what) {
        if (!upTo(FARTHEST, n) || !upTo(2, what)) {
            return refused(BEYOND);
        }
        thinkBehind(n);
        switch (what) {
            case 0:
                return thought.wetOfAll();
            case 1:
                return thought.sorrowOfAll();
            default:
                return Integer.bitCount(thought.wetCells());
        }
    }

    public int dry(int cell) {
        if (!isCell(cell)) {
            return refused(BEYOND);
        }
        return firstBehind(thought.wet, cell, 0);
    }

    public int eased(int mourner, int v) {
        if (!isMourner(mourner) || !upTo(MOST_HELD, v)) {
            return refused(BEYOND);
        }
        return firstBehind(thought.sorrow, mourner, v);
    }

    public int cellFor(int mourner, int n) {
        if (!isMourner(mourner) || !upTo(FARTHEST, n)) {
            return refused(BEYOND);
        }
        return leastWetting(CELL_OF, mourner, CELLS, n);
    }

    public int comesFor(int place, int n) {
        if (!upTo(PLACES - 1, place) || !upTo(FARTHEST, n)) {
            return refused(BEYOND);
        }
        return leastWetting(COMING, place, MOST_MOURNERS, n);
    }

    public int kindFor(int mourner, int n) {
        if (!isMourner(mourner) || !upTo(FARTHEST, n)) {
            return refused(BEYOND);
        }
        return leastWetting(KIND_OF, mourner, KINDS, n);
    }

    public int folded(int folding, int cell, int what) {
        if (!isCell(cell) || !upTo(1, what)) {
            return refused(BEYOND);
        }
        int lies = pileAndLayer(folding, cell);
        if (lies < 0) {
            return refused(BEYOND);
        }
        return what == 0 ? lies / CELLS : lies % CELLS;
    }

    public int topFor(int cell) {
        if (!isCell(cell)) {
            return refused(BEYOND);
        }
        // Counting in fours goes through the FOLDINGS of 4 FOLDS from the least on.
        for (int i = 0; i < 256; i++) {
            int folding = 11111 + (i >> 6) * 1000 + (i >> 4 & 3) * 100 + (i >> 2 & 3) * 10 + (i & 3);
            int lies = pileAndLayer(folding, cell);
            if (lies >= 0 && lies % CELLS == CELLS - 1) {
                return folding;
            }
        }
        return refused(NONE);
    }

    public int route(int a, int b) {
        if (!isCell(a) || !isCell(b)) {
            return refused(BEYOND);
        }
        if ((now.torn >> a & 1) == 1 || (now.torn >> b & 1) == 1) {
            return refused(STATE);
        }
        int reached = 1 << a;
        for (int steps = 0; steps < CELLS; steps++) {
            if ((reached >> b & 1) == 1) {
                return steps;
            }
            reached = spread(reached) & now.whole();
        }
        return refused(NONE);
    }

    public int parts() {
        return partsOf(now.whole());
    }

    public int mends() {
        int torn = now.torn;
        int many = Integer.bitCount(torn);
        if (many > MOST_SEARCHED) {
            return refused(STATE);
        }
        int fewest = torn;
        int mended = 0;
        for (int i = 0; i < 1 << many; i++) {
            if (Integer.bitCount(mended) < Integer.bitCount(fewest) && isOnePartAtMost(now.whole() | mended)) {
                fewest = mended;
            }
            // The next greater set of those torn, so that of several the least comes first.
            mended = mended - torn & torn;
        }
        return fewest;
    }

    public int game(int what) {
        if (!upTo(1, what)) {
            return refused(BEYOND);
        }
        int wet = now.wetCells();
        if (Integer.bitCount(wet) > MOST_SEARCHED) {
            return refused(STATE);
        }
        int how = leastToWin(wet);
        if (what == 0) {
            return how == 0 ? 0 : 1;
        }
        return how == 0 ? refused(NONE) : how;
    }

    public int which(int sheet, int mourner) {
        if (!isSheet(sheet) || !isMourner(mourner)) {
            return refused(BEYOND);
        }
        if (sheets[sheet].bits == 0) {
            return refused(NONE);
        }
        int set = 0;
        for (int kind = 0; kind < KINDS; kind++) {
            suppose(KIND_OF, mourner, kind);
            if (firstUntrue(sheets[sheet]) < 0) {
                set |= 1 << kind;
            }
        }
        return set;
    }

    public int sorry(int sheet, int mourner, int what) {
        if (!isSheet(sheet) || !isMourner(mourner) || !upTo(1, what)) {
            return refused(BEYOND);
        }
        if (sheets[sheet].bits == 0) {
            return refused(NONE);
        }
        int many = 0;
        for (int sorrow = 0; sorrow <= MOST_HELD; sorrow++) {
            suppose(SORROW_OF, mourner, sorrow);
            if (firstUntrue(sheets[sheet]) < 0) {
                if (what == 1) {
                    return sorrow;
                }
                many++;
            }
        }
        return what == 0 ? many : refused(NONE);
    }

    public int odds(int n, int v, int part) {
        if (!upTo(FARTHEST_ODDS, n) || !upTo(MOST_WET, v) || !upTo(1, part)) {
            return refused(BEYOND);
        }
        int above = 0;
        for (int mourner = 0; mourner < MOST_MOURNERS; mourner++) {
            suppose(COMING, now.year % PLACES, mourner);
            for (int i = 0; i < n; i++) {
                thought.passYear();
            }
            if (thought.wetOfAll() <= v) {
                above++;
            }
        }
        // Only 1, 2, 4 and 8 divide 8: the greatest of them that divides both is the lowest bit of either.
        int common = (above | MOST_MOURNERS) & -(above | MOST_MOURNERS);
        return (part == 0 ? above : MOST_MOURNERS) / common;
    }

    // ---- draws, voices, sheets, images, what is told

    public int seed(int v) {
        int was = now.z;
        now.z = v;
        return was;
    }

    public int voice(int mourner, int act, int x) {
        if (!isMourner(mourner) || !upTo(3, act)) {
            return refused(BEYOND);
        }
        speaker.number = mourner;
        speaker.m = now.m[mourner];
        speaker.trace.length = 0;
        Mourner kind = now.kindOf(mourner);
        switch (act) {
            case 0:
                return kind.sighs(speaker, x);
            case 1:
                return kind.blows(speaker, x);
            case 2:
                return kind.folds(speaker, x);
            default:
                return kind.tells(speaker, x);
        }
    }

    public int trace(int i) {
        return speaker.trace.has(i) ? speaker.trace.numbers[i] : refused(NONE);
    }

    public int sheet(int sheet, int bits, int n) {
        if (!isSheet(sheet) || bits != 0 && bits != 8 && bits != 16 && bits != 32) {
            return refused(BEYOND);
        }
        if (bits != 0 && n < 0) {
            return refused(STATE);
        }
        if (bits != 0 && n > LONGEST_SHEET) {
            return refused(BEYOND);
        }
        sheets[sheet].startAnew(bits, bits == 0 ? 0 : n);
        return 1;
    }

    public int put(int sheet, int i, int v) {
        if (!isSheet(sheet)) {
            return refused(BEYOND);
        }
        Row row = sheets[sheet];
        if (row.bits == 0) {
            return refused(NONE);
        }
        if (!row.has(i)) {
            return refused(BEYOND);
        }
        row.numbers[i] = lowestBits(v, row.bits);
        return 1;
    }

    public int move(int sheet, int i, int other, int j, int n) {
        if (!isSheet(sheet) || !isSheet(other)) {
            return refused(BEYOND);
        }
        Row from = sheets[sheet];
        Row to = sheets[other];
        if (from.bits == 0 || to.bits == 0) {
            return refused(NONE);
        }
        if (from.bits != to.bits) {
            return refused(KIND);
        }
        if (!from.holds(i, n) || !to.holds(j, n)) {
            return refused(BEYOND);
        }
        System.arraycopy(from.numbers, i, to.numbers, j, n);
        return n;
    }

    public int wets(int sheet) {
        if (!isSheet(sheet)) {
            return refused(BEYOND);
        }
        Row row = sheets[sheet];
        if (row.bits == 0) {
            return refused(NONE);
        }
        int most = Math.min(row.length, CELLS);
        for (int i = 0; i < most; i++) {
            if (!upTo(MOST_HELD, row.numbers[i])) {
                return i;
            }
            now.wet[i] = row.numbers[i];
        }
        return most;
    }

    public int judge(int sheet) {
        if (!isSheet(sheet)) {
            return refused(BEYOND);
        }
        Row row = sheets[sheet];
        if (row.bits == 0) {
            return refused(NONE);
        }
        int both = Math.min(row.length, now.mourners);
        for (int i = 0; i < both; i++) {
            if (row.numbers[i] != now.sorrow[i]) {
                return i;
            }
        }
        return row.length == now.mourners ? -1 : both;
    }

    public int image() {
        kept.takesAll(now);
        images++;
        return images;
    }

    public int restore() {
        if (images == 0) {
            return refused(NONE);
        }
        now.takesAll(kept);
        return now.year;
    }

    public int tell(int v) {
        if (now.waiting.length >= MOST_WAITING) {
            return refused(FULL);
        }
        now.waiting.add(v);
        return now.waiting.length;
    }

    public int check() {
        thought.takes(now);
        int untrue = firstUntrue(now.waiting);
        now.waiting.length = 0;
        return 1 + untrue;
    }

    public int count(int what) {
        switch (what) {
            case 0:
                return now.mourners;
            case 1:
                return now.year;
            case 2:
                return now.wetOfAll();
            case 3:
                return Integer.bitCount(now.wetCells());
            case 4:
                return now.torn;
            case 5:
                return now.sorrowOfAll();
            case 6:
                return partsOf(now.whole());
            case 7:
                return now.tape.length;
            case 8:
                return now.waiting.length;
            case 9:
                return speaker.trace.length;
            case 10:
                return now.z;
            default:
                return refused(BEYOND);
        }
    }

    public int told(int k) {
        return k >= BEYOND && k <= KIND ? refusals[k] : refused(BEYOND);
    }

    // ---- what may be asked for

    private int refused(int error) {
        refusals[error]++;
        return LOW - error;
    }

    private static boolean upTo(int most, int v) {
        return v >= 0 && v <= most;
    }

    private static boolean isCell(int cell) {
        return upTo(CELLS - 1, cell);
    }

    private static boolean isKindAndNumber(int km) {
        return upTo(KINDS * 10 - 1, km);
    }

    private static boolean isUse(int use) {
        return upTo(DRIES, use);
    }

    private static boolean isSheet(int sheet) {
        return upTo(SHEETS - 1, sheet);
    }

    private boolean isMourner(int mourner) {
        return mourner >= 0 && mourner < now.mourners;
    }

    private static boolean isUnder(int kind, int above) {
        int one = kind;
        for (int i = 0; i < KINDS && one >= 0; i++) {
            if (one == above) {
                return true;
            }
            one = KIND_ABOVE[one];
        }
        return false;
    }

    private static int held(int v) {
        return Math.max(0, Math.min(MOST_HELD, v));
    }

    private static int lowestBits(int v, int bits) {
        switch (bits) {
            case 8:
                return (byte) v;
            case 16:
                return (short) v;
            default:
                return v;
        }
    }

    // ---- sets of cells: bit c is CELL c

    /** A set and all CELLS BESIDE one of it. */
    private static int spread(int set) {
        int across = (set & ~RIGHT_COLUMN) << 1 | (set & ~LEFT_COLUMN) >> 1;
        int down = set << SIDE & ALL_CELLS | set >> SIDE;
        return set | across | down;
    }

    private static int beside(int cell) {
        int one = 1 << cell;
        return spread(one) & ~one;
    }

    /** All of a set to which one comes from its least CELL. */
    private static int partOfLeast(int set) {
        int part = set & -set;
        for (int i = 0; i < CELLS; i++) {
            int wider = spread(part) & set;
            if (wider == part) {
                break;
            }
            part = wider;
        }
        return part;
    }

    private static int partsOf(int set) {
        int left = set;
        int parts = 0;
        for (int i = 0; i < CELLS && left != 0; i++) {
            left &= ~partOfLeast(left);
            parts++;
        }
        return parts;
    }

    private static boolean isOnePartAtMost(int set) {
        return partOfLeast(set) == set;
    }

    // ---- thinking ahead

    private void thinkBehind(int n) {
        thought.takes(now);
        for (int i = 0; i < n; i++) {
            thought.passYear();
        }
    }

    /** Behind how many YEARS a number of a row of what is thought is v or less first. */
    private int firstBehind(int[] row, int i, int v) {
        thought.takes(now);
        for (int n = 0; n < FARTHEST; n++) {
            if (row[i] <= v) {
                return n;
            }
            thought.passYear();
        }
        return row[i] <= v ? FARTHEST : refused(NONE);
    }

    /** All is thought as it is now, but for one thing. */
    private void suppose(int what, int who, int v) {
        thought.takes(now);
        switch (what) {
            case CELL_OF:
                thought.at[who] = v;
                break;
            case COMING:
                thought.places[who] = v;
                break;
            case KIND_OF:
                thought.kind[who] = v;
                break;
            default:
                thought.sorrow[who] = v;
        }
    }

    /** Which of 0, 1, .. (so many), were it so of one, leaves the cloth least WET behind n YEARS. */
    private int leastWetting(int what, int who, int many, int n) {
        int best = 0;
        int least = MOST_WET + 1;
        for (int v = 0; v < many; v++) {
            suppose(what, who, v);
            for (int i = 0; i < n; i++) {
                thought.passYear();
            }
            int wet = thought.wetOfAll();
            if (wet < least) {
                least = wet;
                best = v;
            }
        }
        return best;
    }

    /** The place of the first number that isn't WET of all in thought behind 1, 2, .. YEARS; -1: none. */
    private int firstUntrue(Row told) {
        for (int i = 0; i < told.length; i++) {
            thought.passYear();
            if (thought.wetOfAll() != told.numbers[i]) {
                return i;
            }
        }
        return -1;
    }

    // ---- foldings

    /** 16 times the PILE, and the LAYER, of a CELL; -1: there is no such FOLDING. */
    private static int pileAndLayer(int folding, int cell) {
        int unit = firstUnit(folding);
        int across = SIDE;
        int down = SIDE;
        int x = cell % SIDE;
        int y = cell / SIDE;
        int layer = 0;
        int height = 1;
        for (int u = unit / 10; u > 0; u /= 10) {
            int fold = folding / u % 10;
            boolean sideways = fold <= 2;
            int half = (sideways ? across : down) / 2;
            if (fold < 1 || fold > 4 || half == 0) {
                return -1;
            }
            int place = sideways ? x : y;
            boolean lesserLaidOver = fold % 2 == 1;
            if (lesserLaidOver == (place < half)) {
                place = 2 * half - 1 - place;
                layer = 2 * height - 1 - layer;
            }
            // The half that stays is counted from 0 on, too, where it was the greater one.
            place -= lesserLaidOver ? half : 0;
            x = sideways ? place : x;
            y = sideways ? y : place;
            across = sideways ? half : across;
            down = sideways ? down : half;
            height *= 2;
        }
        return unit == 0 ? -1 : (y * across + x) * CELLS + layer;
    }

    /** What the first digit of a FOLDING counts; 0: that isn't 1, or there are more than 4 behind it. */
    private static int firstUnit(int folding) {
        for (int unit = 1; unit <= 10000; unit *= 10) {
            if (folding >= unit && folding < 2 * unit) {
                return unit;
            }
        }
        return 0;
    }

    // ---- the game

    /** The least set to dry so that the other one loses; 0: there is none. */
    private int leastToWin(int wet) {
        listDryings(wet);
        int all = (1 << Integer.bitCount(wet)) - 1;
        int how = 0;
        for (int left = 0; left <= all; left++) {
            how = leastToWinRanked(left);
            wins[left] = how != 0;
        }
        return unranked(how, wet);
    }

    /**
     * What may be dried, as sets of ranks: bit i is the i-th CELL that is WET. At most 10 are, so these
     * sets index a row of 1024, and they are ordered as the sets of CELLS are.
     */
    private void listDryings(int wet) {
        dryings.length = 0;
        for (int a = 0; a < CELLS; a++) {
            if ((wet >> a & 1) == 1) {
                int one = 1 << rank(a, wet);
                dryings.add(one);
                int others = wet & beside(a);
                for (int b = a + 1; b < CELLS; b++) {
                    if ((others >> b & 1) == 1) {
                        dryings.add(one | 1 << rank(b, wet));
                    }
                }
            }
        }
    }

    private static int rank(int cell, int set) {
        return Integer.bitCount(set & (1 << cell) - 1);
    }

    private static int unranked(int ranks, int set) {
        int cells = 0;
        for (int c = 0; c < CELLS; c++) {
            if ((set >> c & 1) == 1 && (ranks >> rank(c, set) & 1) == 1) {
                cells |= 1 << c;
            }
        }
        return cells;
    }

    private int leastToWinRanked(int left) {
        int least = 0;
        for (int i = 0; i < dryings.length; i++) {
            int dried = dryings.numbers[i];
            if ((left & dried) == dried && !wins[left ^ dried] && (least == 0 || dried < least)) {
                least = dried;
            }
        }
        return least;
    }

    /** Numbers in a row that is made once and used again. A SHEET that is missing has 0 bits. */
    private static final class Row {
        final int[] numbers;
        int length;
        int bits;

        Row(int most) {
            numbers = new int[most];
        }

        boolean has(int i) {
            return i >= 0 && i < length;
        }

        boolean holds(int i, int n) {
            return i >= 0 && n >= 0 && i <= length && n <= length - i;
        }

        void add(int v) {
            if (length < numbers.length) {
                numbers[length] = v;
                length++;
            }
        }

        void startAnew(int newBits, int newLength) {
            for (int i = 0; i < numbers.length; i++) {
                numbers[i] = 0;
            }
            bits = newBits;
            length = newLength;
        }

        /** Only for rows made for equally many. */
        void takes(Row other) {
            length = other.length;
            System.arraycopy(other.numbers, 0, numbers, 0, length);
        }
    }

    /** What is imaged: the cloth, who mourns, the laws, and what waits to be read or checked. */
    private static final class Cloth {
        final Mourner[] kinds;
        final Law[] laws;
        final int[] wet = new int[CELLS];
        final int[] was = new int[CELLS];
        final int[] places = new int[PLACES];
        final int[] kind = new int[MOST_MOURNERS];
        final int[] m = new int[MOST_MOURNERS];
        final int[] sorrow = new int[MOST_MOURNERS];
        final int[] at = new int[MOST_MOURNERS];
        final Row tape = new Row(LONGEST_TAPE);
        final Row waiting = new Row(MOST_WAITING);
        int torn;
        int year;
        int mourners;
        int z = 1;

        Cloth(Mourner[] kinds, Law[] laws) {
            this.kinds = kinds;
            this.laws = laws;
            for (int i = 0; i < PLACES; i++) {
                places[i] = i;
            }
        }

        /** Takes what YEARS go by or change; the laws, what waits, and z stay. */
        void takes(Cloth other) {
            System.arraycopy(other.wet, 0, wet, 0, CELLS);
            System.arraycopy(other.places, 0, places, 0, PLACES);
            System.arraycopy(other.kind, 0, kind, 0, MOST_MOURNERS);
            System.arraycopy(other.m, 0, m, 0, MOST_MOURNERS);
            System.arraycopy(other.sorrow, 0, sorrow, 0, MOST_MOURNERS);
            System.arraycopy(other.at, 0, at, 0, MOST_MOURNERS);
            torn = other.torn;
            year = other.year;
            mourners = other.mourners;
        }

        void takesAll(Cloth other) {
            takes(other);
            laws[WEPT].code.takes(other.laws[WEPT].code);
            laws[DRIES].code.takes(other.laws[DRIES].code);
            tape.takes(other.tape);
            waiting.takes(other.waiting);
            z = other.z;
        }

        Mourner kindOf(int mourner) {
            return kinds[kind[mourner]];
        }

        int whole() {
            return ALL_CELLS & ~torn;
        }

        int wetCells() {
            int set = 0;
            for (int c = 0; c < CELLS; c++) {
                if (wet[c] > 0) {
                    set |= 1 << c;
                }
            }
            return set;
        }

        int tornOrDry() {
            return torn | ALL_CELLS & ~wetCells();
        }

        int thoseAt(int cell) {
            int set = 0;
            for (int i = 0; i < mourners; i++) {
                if (at[i] == cell) {
                    set |= 1 << i;
                }
            }
            return set;
        }

        int wetOfAll() {
            int sum = 0;
            for (int c = 0; c < CELLS; c++) {
                sum += wet[c];
            }
            return sum;
        }

        int sorrowOfAll() {
            int sum = 0;
            for (int i = 0; i < mourners; i++) {
                sum += sorrow[i];
            }
            return sum;
        }

        /** What a USE gives, by its TEXT or without one. */
        int given(int use, int a, int b, int c) {
            Law law = laws[use];
            if (law.code.length > 0) {
                return held(law.workedOut(a, b, c));
            }
            return use == WEPT ? held(a) : USUAL_DRYING;
        }

        int weptBy(int mourner) {
            int s = sorrow[mourner];
            return given(WEPT, kindOf(mourner).weeps(m[mourner], s), s, year % 8);
        }

        void passYear() {
            int who = places[year % PLACES];
            if (who < mourners) {
                int wept = weptBy(who);
                int cell = at[who];
                if ((torn >> cell & 1) == 0) {
                    wet[cell] = held(wet[cell] + wept);
                }
                sorrow[who] = held(sorrow[who] - kindOf(who).eases(m[who], wept));
            }
            seep();
            dryOut();
            grieve();
            year++;
        }

        /** A CELL loses only where it has 10 more, and then 4 at most: nothing leaves 0 to 99 here. */
        private void seep() {
            System.arraycopy(wet, 0, was, 0, CELLS);
            for (int c = 0; c < CELLS; c++) {
                if (c % SIDE < SIDE - 1) {
                    seepBetween(c, c + 1);
                }
                if (c < CELLS - SIDE) {
                    seepBetween(c, c + SIDE);
                }
            }
        }

        private void seepBetween(int a, int b) {
            if (((torn >> a | torn >> b) & 1) == 1) {
                return;
            }
            int more = was[a] - was[b];
            if (more >= 10) {
                wet[a]--;
                wet[b]++;
            } else if (more <= -10) {
                wet[a]++;
                wet[b]--;
            }
        }

        private void dryOut() {
            int tornOrDry = tornOrDry();
            for (int c = 0; c < CELLS; c++) {
                // What is dry stays so, whatever the TEXT gives: it needn't be worked out.
                if (wet[c] > 0) {
                    int n = Integer.bitCount(beside(c) & tornOrDry);
                    wet[c] = held(wet[c] - given(DRIES, wet[c], n, year % 8));
                }
            }
        }

        private void grieve() {
            for (int i = 0; i < mourners; i++) {
                sorrow[i] = held(sorrow[i] + kindOf(i).grieves(m[i], year));
            }
        }

        /** The second draw is made even where there is no such MOURNER. */
        void drawWhoAndWhere() {
            int who = drawn() % MOST_MOURNERS;
            int cell = drawn() % CELLS;
            places[year % PLACES] = who;
            if (who < mourners) {
                at[who] = cell;
            }
        }

        private int drawn() {
            z = z * 1103515245 + 12345;
            return z >>> 8;
        }
    }

    /**
     * A TEXT, kept in the order in which it is worked out (what is joined first, then by what): a
     * number as it is, a NAME as -1, -2, -3, a sign as its byte below 0. There is no TEXT while that
     * is empty.
     */
    private static final class Law {
        private static final int MOST_OPEN = 5;
        private static final int MOST_DIGITS = 4;

        final Row code = new Row(LONGEST_TAPE);
        private final int[] stack = new int[LONGEST_TAPE];
        private Row source = code;
        private String names = "";
        private int at;

        /** Reads a TEXT of a USE: the FAULT, or -1. */
        int read(Row tape, int use) {
            source = tape;
            names = use == WEPT ? "wsy" : "wny";
            at = 0;
            code.length = 0;
            return readText(0) && at == source.length ? -1 : at;
        }

        private int ahead() {
            return at < source.length ? source.numbers[at] : -1;
        }

        /** A byte is passed only where a TEXT goes on with it, so that a FAULT is where reading stands. */
        private void pass() {
            at++;
        }

        private boolean readText(int open) {
            boolean good = readAll(open);
            for (int left = source.length; left > 0 && good && ahead() == '|'; left--) {
                pass();
                good = readAll(open);
                code.add(-'|');
            }
            return good;
        }

        private boolean readAll(int open) {
            boolean good = readCompared(open);
            for (int left = source.length; left > 0 && good && ahead() == '&'; left--) {
                pass();
                good = readCompared(open);
                code.add(-'&');
            }
            return good;
        }

        private boolean readCompared(int open) {
            boolean good = readSum(open);
            int sign = ahead();
            if (good && (sign == '<' || sign == '=' || sign == '>')) {
                pass();
                good = readSum(open);
                code.add(-sign);
            }
            return good;
        }

        private boolean readSum(int open) {
            boolean good = readProduct(open);
            int sign = ahead();
            for (int left = source.length; left > 0 && good && (sign == '+' || sign == '-'); left--) {
                pass();
                good = readProduct(open);
                code.add(-sign);
                sign = ahead();
            }
            return good;
        }

        private boolean readProduct(int open) {
            boolean good = readLeast(open);
            int sign = ahead();
            for (int left = source.length; left > 0 && good && (sign == '*' || sign == '/' || sign == '%'); left--) {
                pass();
                good = readLeast(open);
                code.add(-sign);
                sign = ahead();
            }
            return good;
        }

        private boolean readLeast(int open) {
            int sign = ahead();
            if (sign >= '0' && sign <= '9') {
                readNumber();
                return true;
            }
            if (sign == '!' && open < MOST_OPEN) {
                pass();
                boolean good = readLeast(open + 1);
                code.add(-'!');
                return good;
            }
            if (sign == '(' && open < MOST_OPEN) {
                pass();
                if (!readText(open + 1) || ahead() != ')') {
                    return false;
                }
                pass();
                return true;
            }
            int name = sign < 0 ? -1 : names.indexOf((char) sign);
            if (name < 0) {
                return false;
            }
            pass();
            code.add(-1 - name);
            return true;
        }

        private void readNumber() {
            int number = 0;
            for (int digits = 0; digits < MOST_DIGITS && ahead() >= '0' && ahead() <= '9'; digits++) {
                number = number * 10 + ahead() - '0';
                pass();
            }
            code.add(number);
        }

        int workedOut(int a, int b, int c) {
            int top = -1;
            for (int i = 0; i < code.length; i++) {
                int step = code.numbers[i];
                if (step >= -3) {
                    top++;
                    stack[top] = step >= 0 ? step : step == -1 ? a : step == -2 ? b : c;
                } else if (step == -'!') {
                    stack[top] = stack[top] == 0 ? 1 : 0;
                } else {
                    top--;
                    stack[top] = joined(-step, stack[top], stack[top + 1]);
                }
            }
            return top < 0 ? 0 : stack[top];
        }

        private static int joined(int sign, int left, int right) {
            switch (sign) {
                case '+':
                    return left + right;
                case '-':
                    return left - right;
                case '*':
                    return left * right;
                case '/':
                    return right == 0 ? 0 : left / right;
                case '%':
                    return right == 0 ? 0 : left % right;
                case '<':
                    return left < right ? 1 : 0;
                case '=':
                    return left == right ? 1 : 0;
                case '>':
                    return left > right ? 1 : 0;
                case '&':
                    return left != 0 && right != 0 ? 1 : 0;
                default:
                    return left != 0 || right != 0 ? 1 : 0;
            }
        }
    }

    /** Who speaks, and THE TRACE. */
    private static final class Voice {
        final Row trace = new Row(LONGEST_TRACE);
        int number;
        int m;
    }

    /** The KIND 0; the others stand under it, and what they don't tell is as the KIND above tells it. */
    private static class Mourner {
        int weeps(int m, int sorrow) {
            return sorrow / 4 + 1;
        }

        int eases(int m, int wept) {
            return wept / 2;
        }

        int grieves(int m, int year) {
            return 2;
        }

        int sighs(Voice v, int x) {
            v.trace.add(10);
            return x + v.number;
        }

        int blows(Voice v, int x) {
            v.trace.add(11);
            return sighs(v, x) * 2;
        }

        int folds(Voice v, int x) {
            v.trace.add(12);
            return x - v.m;
        }

        int tells(Voice v, int x) {
            v.trace.add(13);
            return blows(v, x) ^ folds(v, x);
        }
    }

    private static class Widow extends Mourner {
        int weeps(int m, int sorrow) {
            return 2 * super.weeps(m, sorrow);
        }

        int grieves(int m, int year) {
            return 5;
        }

        int sighs(Voice v, int x) {
            v.trace.add(20);
            return super.sighs(v, x) * 3;
        }
    }

    private static class Sailor extends Mourner {
        int weeps(int m, int sorrow) {
            return Math.max(0, super.weeps(m, sorrow) - 3);
        }

        int eases(int m, int wept) {
            return super.eases(m, wept) + 3;
        }

        int blows(Voice v, int x) {
            v.trace.add(30);
            return super.blows(v, x) - folds(v, 1);
        }
    }

    private static class Member extends Mourner {
        int weeps(int m, int sorrow) {
            return sorrow < 50 ? 0 : super.weeps(m, sorrow);
        }

        int grieves(int m, int year) {
            return 1;
        }

        int folds(Voice v, int x) {
            v.trace.add(40);
            return -super.folds(v, x);
        }
    }

    private static final class Queen extends Widow {
        int weeps(int m, int sorrow) {
            return super.weeps(m, sorrow) + 10;
        }

        int eases(int m, int wept) {
            return 0;
        }

        int grieves(int m, int year) {
            return super.grieves(m, year) + m / 3;
        }

        int tells(Voice v, int x) {
            v.trace.add(50);
            return super.tells(v, x) - sighs(v, 2);
        }
    }

    private static final class Middy extends Sailor {
        int weeps(int m, int sorrow) {
            return super.weeps(m, sorrow) + m;
        }

        int grieves(int m, int year) {
            return year % 2 == 0 ? super.grieves(m, year) : 0;
        }

        int blows(Voice v, int x) {
            v.trace.add(60);
            return super.blows(v, x + 1);
        }
    }

    private static final class Laundress extends Member {
        int weeps(int m, int sorrow) {
            return Math.max(0, super.weeps(m, sorrow) - m);
        }

        int eases(int m, int wept) {
            return super.eases(m, wept) + m;
        }

        int folds(Voice v, int x) {
            v.trace.add(70);
            return super.folds(v, x) ^ v.number;
        }

        int tells(Voice v, int x) {
            v.trace.add(71);
            return blows(v, x) - super.tells(v, x);
        }
    }
}

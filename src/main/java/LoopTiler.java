import java.util.Arrays;
import java.util.NoSuchElementException;

/**
 * Loop tiler by directions: nests of loops turned, skewed, tiled, fused where
 * dependences allow, the order proved legal, cache misses reckoned.
 *
 * All rows are made once, by the constructor, and used again: no call but a
 * throwing one makes an object.
 */
public final class LoopTiler {
    public static final int NONE = -1;
    public static final int NOWHERE = -1000000;

    private static final int NESTS_MOST = 2;
    private static final int LOOPS_MOST = 3;
    private static final int STATEMENTS_MOST = 4;
    private static final int READS_MOST = 4;
    private static final int TERMS_MOST = 4;
    private static final int TURNS_MOST = 500;
    private static final int VALUE_MOST = 999;
    private static final int NUMBER_MOST = 9;
    private static final int SIZE_MOST = 16;
    private static final int SHIFT_MOST = 99;
    private static final int TAPE_MOST = 600;
    private static final int SPAN_MOST = 1000000;

    private static final int TOUCHES_MOST = STATEMENTS_MOST * (READS_MOST + 1);
    private static final int ALL_TOUCHES = TURNS_MOST * TOUCHES_MOST;
    /** A read has at most one pair ahead and one behind, a write at most one write ahead. */
    private static final int PAIRS_MOST = TURNS_MOST * STATEMENTS_MOST * (2 * READS_MOST + 1);

    /** A touch as a number that grows as touches are told: its turn, then 5 bits of its place in it. */
    private static final int TOUCH_BITS = 5;
    private static final int TOUCH_MASK = 31;
    private static final int SEQUENCE_BITS = 14;
    private static final int SEQUENCE_MASK = 16383;

    /** WIDTH, L, SETS, WAYS. */
    private static final int[] CACHE_FIRST = {16, 4, 4, 2};
    private static final int[] CACHE_MOST = {64, 16, 16, 8};

    private final int[] tape = new int[TAPE_MOST];
    private int taped = 0;
    private int nestCount = 0;
    private final Nest[] nests = new Nest[NESTS_MOST];
    private final Told[] spare = new Told[NESTS_MOST];
    private final Reader reader = new Reader();
    private final Memory memory = new Memory();
    private final Tiles tiles = new Tiles();
    private final Spans spans = new Spans();
    private final Fusion fusion = new Fusion();
    /** What is sorted: the touches of both nests at most. */
    private final long[] scratch = new long[NESTS_MOST * ALL_TOUCHES];

    public LoopTiler() {
        for (int i = 0; i < NESTS_MOST; i++) {
            nests[i] = new Nest();
            spare[i] = new Told();
        }
    }

    public int feed(int a, int b, int c, int d, int e) {
        if (taped > TAPE_MOST - 20) {
            return NONE;
        }
        putBytes(a);
        putBytes(b);
        putBytes(c);
        putBytes(d);
        putBytes(e);
        return taped;
    }

    private void putBytes(int word) {
        for (int bits = 24; bits >= 0 && taped < TAPE_MOST; bits -= 8) {
            tape[taped] = (word >> bits) & 255;
            taped++;
        }
    }

    public int text(int n) {
        if (n < 0 || n > taped) {
            return NONE;
        }
        taped = 0;
        int answer = reader.read(tape, n, spare);
        if (answer < 0) {
            return answer;
        }
        for (int i = 0; i < answer && i < NESTS_MOST; i++) {
            spare[i] = nests[i].take(spare[i]);
        }
        nestCount = answer;
        fusion.known = false;
        return answer;
    }

    private boolean isNest(int nest) {
        return nest >= 0 && nest < nestCount && nest < NESTS_MOST;
    }

    public int nest(int nest, int what) {
        if (!isNest(nest)) {
            return NONE;
        }
        Nest it = nests[nest];
        switch (what) {
            case 0: return it.told.depth;
            case 1: return it.turns;
            case 2: return it.told.statements;
            case 3: return it.told.touches;
            case 4: return it.plan.from;
            case 5: return it.plan.levels;
            case 6: return it.plan.size;
            default: return NONE;
        }
    }

    // ---- pairs

    private Pairs pairsOf(int nest) {
        Nest it = nests[nest];
        it.pairs.ready(it, scratch);
        return it.pairs;
    }

    public int pairs(int nest, int kind) {
        if (!isNest(nest) || kind < 0 || kind > 3) {
            return NONE;
        }
        Pairs all = pairsOf(nest);
        return kind == 3 ? all.size : all.ofKind(kind);
    }

    public int distance(int nest, int i, int what) {
        if (!isNest(nest) || i < NONE || what < 0 || what > 3) {
            return NOWHERE;
        }
        Pairs all = pairsOf(nest);
        if (i == NONE) {
            return all.distances();
        }
        int start = all.startOf(i);
        if (start == NONE) {
            return NOWHERE;
        }
        return what == 3 ? all.alikeFrom(start) : all.apart(start, what);
    }

    public int direction(int nest, int a, int b, int c, int what) {
        if (!isNest(nest)) {
            return NONE;
        }
        if (what == 0) {
            return pairsOf(nest).directions();
        }
        int depth = nests[nest].told.depth;
        int second = depth > 1 ? b : 0;
        int third = depth > 2 ? c : 0;
        if (what != 1 || !isSign(a) || !isSign(second) || !isSign(third)) {
            return NONE;
        }
        return pairsOf(nest).directed(a, second, third);
    }

    private static boolean isSign(int number) {
        return number >= -1 && number <= 1;
    }

    // ---- changes

    public boolean swap(int nest, int level, int other) {
        return isNest(nest) && nests[nest].plan.exchange(level, other);
    }

    public boolean turn(int nest, int level) {
        return isNest(nest) && nests[nest].plan.negate(level);
    }

    public boolean skew(int nest, int level, int by, int f) {
        return isNest(nest) && nests[nest].plan.addRow(level, by, f);
    }

    public boolean tile(int nest, int f, int n, int size) {
        if (!isNest(nest)) {
            return false;
        }
        Plan plan = nests[nest].plan;
        if (n == 0) {
            plan.putTile(0, 0, 0);
            return true;
        }
        if (!plan.fits(f, n) || size < 1 || size > SIZE_MOST) {
            return false;
        }
        plan.putTile(f, n, size);
        return true;
    }

    public boolean anew(int nest) {
        if (!isNest(nest)) {
            return false;
        }
        nests[nest].plan.reset(nests[nest].told.depth);
        return true;
    }

    public int change(int nest, int row, int place, boolean back) {
        if (!isNest(nest)) {
            return NOWHERE;
        }
        Plan plan = nests[nest].plan;
        if (!plan.isLevel(row) || !plan.isLevel(place)) {
            return NOWHERE;
        }
        return back ? plan.back(row, place) : plan.rows[3 * row + place];
    }

    private Plan planOf(int nest) {
        Nest it = nests[nest];
        it.plan.ready(it, scratch);
        return it.plan;
    }

    public int legal(int nest) {
        if (!isNest(nest)) {
            return NONE;
        }
        Pairs all = pairsOf(nest);
        return all.firstBroken(planOf(nest)) == NONE ? 1 : 0;
    }

    public int broken(int nest, int what) {
        if (!isNest(nest) || what < 0 || what > 3) {
            return NOWHERE;
        }
        Pairs all = pairsOf(nest);
        Plan plan = planOf(nest);
        if (what == 0) {
            return all.brokenBy(plan);
        }
        int least = all.firstBroken(plan);
        return least == NONE ? NOWHERE : all.apart(least, what - 1);
    }

    public int carried(int nest, int place) {
        if (!isNest(nest) || place < 0 || place >= nests[nest].plan.places()) {
            return NONE;
        }
        Pairs all = pairsOf(nest);
        return all.carriedBy(planOf(nest), place);
    }

    public int band(int nest, int level) {
        if (!isNest(nest) || !nests[nest].plan.isLevel(level)) {
            return NONE;
        }
        Pairs all = pairsOf(nest);
        Plan plan = planOf(nest);
        int end = level;
        while (end < plan.depth && all.neverFalls(plan, level, end)) {
            end++;
        }
        return end - level;
    }

    // ---- bounds, order

    public int span(int nest, int level, int y0, int y1, int what) {
        if (!isNest(nest) || !nests[nest].plan.isLevel(level) || what < 0 || what > 1) {
            return NOWHERE;
        }
        if (level > 0 && !isWithin(y0, SPAN_MOST) || level > 1 && !isWithin(y1, SPAN_MOST)) {
            return NOWHERE;
        }
        spans.build(nests[nest].told, nests[nest].plan);
        if (spans.width(level, y0, y1) == 0) {
            return NOWHERE;
        }
        return (int) (what == 0 ? spans.least : spans.greatest);
    }

    private static boolean isWithin(int number, int most) {
        return number >= -most && number <= most;
    }

    public int visits(int nest, int level) {
        if (!isNest(nest) || !nests[nest].plan.isLevel(level)) {
            return NONE;
        }
        Nest it = nests[nest];
        // Nothing is left real at the last level and the change loses nothing: its rows are the turns.
        if (level == it.plan.depth - 1) {
            return it.turns;
        }
        spans.build(it.told, it.plan);
        return (int) (level == 0 ? spans.width(0, 0, 0) : spans.widthsOfSecond());
    }

    public int at(int nest, int i, int variable) throws NoSuchElementException {
        if (!isNest(nest) || !nests[nest].plan.isLevel(variable)) {
            throw new NoSuchElementException();
        }
        Nest it = nests[nest];
        if (i < 0 || i >= it.turns) {
            throw new NoSuchElementException();
        }
        return it.values[3 * planOf(nest).order[i] + variable];
    }

    public int place(int nest, int i, int j, int k) {
        if (!isNest(nest)) {
            return NONE;
        }
        Nest it = nests[nest];
        int second = it.told.depth > 1 ? j : 0;
        int third = it.told.depth > 2 ? k : 0;
        Plan plan = planOf(nest);
        for (int p = 0; p < it.turns; p++) {
            if (it.isAt(plan.order[p], i, second, third)) {
                return p;
            }
        }
        return NONE;
    }

    // ---- two nests

    private boolean areAlike() {
        return nestCount == 2 && nests[0].told.depth == nests[1].told.depth;
    }

    /** Takes the shift, as far as the nests are deep; false if it can not be fused by. */
    private boolean takeShift(int i, int j, int k) {
        if (!areAlike()) {
            return false;
        }
        int depth = nests[0].told.depth;
        fusion.shift[0] = i;
        fusion.shift[1] = depth > 1 ? j : 0;
        fusion.shift[2] = depth > 2 ? k : 0;
        return isWithin(fusion.shift[0], SHIFT_MOST) && isWithin(fusion.shift[1], SHIFT_MOST)
            && isWithin(fusion.shift[2], SHIFT_MOST);
    }

    public int shift(int which) {
        if (!areAlike() || which < 0 || which >= nests[0].told.depth) {
            return NOWHERE;
        }
        fusion.ready(nests[0], nests[1], scratch);
        return fusion.bound ? Numbers.part(fusion.least, which) : 0;
    }

    public int fused(int i, int j, int k) {
        if (!takeShift(i, j, k)) {
            return NONE;
        }
        fusion.ready(nests[0], nests[1], scratch);
        return fusion.isKept() ? 1 : 0;
    }

    public int both(int i, int j, int k, int what) {
        if (nestCount != 2 || what < 0 || what > 1 || what == 0 && !takeShift(i, j, k)) {
            return NONE;
        }
        linesOf(0);
        linesOf(1);
        memory.empty();
        if (what == 0) {
            fusion.run(nests[0], nests[1], memory);
        } else {
            runAsTold(nests[0]);
            runAsTold(nests[1]);
        }
        return memory.missed;
    }

    private void runAsTold(Nest it) {
        for (int turn = 0; turn < it.turns; turn++) {
            memory.run(it, turn);
        }
    }

    // ---- the cache

    public int cache(int what, int v) {
        if (what < 0 || what >= CACHE_MOST.length || v < 1 || v > CACHE_MOST[what]) {
            return NONE;
        }
        int was = memory.told[what];
        memory.told[what] = v;
        return was;
    }

    private Lines linesOf(int nest) {
        Nest it = nests[nest];
        it.lines.ready(it, memory.told[0], memory.told[1], scratch);
        return it.lines;
    }

    private int missesInOrder(int nest) {
        Nest it = nests[nest];
        Plan plan = planOf(nest);
        linesOf(nest);
        memory.empty();
        for (int p = 0; p < it.turns; p++) {
            memory.run(it, plan.order[p]);
        }
        return memory.missed;
    }

    private void goThroughTiles(int nest, int wanted) {
        planOf(nest);
        linesOf(nest);
        tiles.goThrough(nests[nest], wanted);
    }

    public int misses(int nest, int what) {
        if (!isNest(nest) || what < 0 || what > 5) {
            return NONE;
        }
        switch (what) {
            case 0: return missesInOrder(nest);
            case 1: return linesOf(nest).size;
            case 2: return nests[nest].turns * nests[nest].told.touches;
            default: break;
        }
        goThroughTiles(nest, NONE);
        return what == 3 ? tiles.reckoned : what == 4 ? tiles.size : tiles.greatest;
    }

    public int tileOf(int nest, int i, int what) {
        if (!isNest(nest) || i < 0 || what < 0 || what > 2) {
            return NONE;
        }
        goThroughTiles(nest, i);
        if (i >= tiles.size) {
            return NONE;
        }
        return what == 0 ? tiles.wantedLines : what == 1 ? tiles.wantedTurns : tiles.wantedAgain;
    }

    public int best(int nest, int f, int n, int what) {
        if (!isNest(nest) || !nests[nest].plan.fits(f, n) || what < 0 || what > 1) {
            return NONE;
        }
        Plan plan = nests[nest].plan;
        int from = plan.from;
        int levels = plan.levels;
        int size = plan.size;
        int bestSize = 0;
        int fewest = 0;
        for (int s = 1; s <= SIZE_MOST; s++) {
            plan.putTile(f, n, s);
            int missed = missesInOrder(nest);
            if (bestSize == 0 || missed < fewest) {
                bestSize = s;
                fewest = missed;
            }
        }
        plan.putTile(from, levels, size);
        return what == 0 ? bestSize : fewest;
    }

    public int count(int what) {
        switch (what) {
            case 0: return nestCount;
            case 1: return memory.told[0];
            case 2: return memory.told[1];
            case 3: return memory.told[2];
            case 4: return memory.told[3];
            case 5: return taped;
            default: return NONE;
        }
    }

    // ---- classes inside

    /** Rows of numbers sorted, and three numbers as one. */
    private static final class Numbers {
        static final int OFFSET = 2048;
        static final int BITS = 12;
        static final int MASK = 4095;

        /** Sorts in place, so that no second row is needed. */
        static void sort(long[] row, int size) {
            for (int root = size / 2 - 1; root >= 0; root--) {
                sink(row, root, size);
            }
            for (int end = size - 1; end > 0; end--) {
                long last = row[end];
                row[end] = row[0];
                row[0] = last;
                sink(row, 0, end);
            }
        }

        static void sink(long[] row, int root, int size) {
            long sinking = row[root];
            int hole = root;
            while (hole < size / 2) {
                int child = 2 * hole + 1;
                if (child + 1 < size && row[child + 1] > row[child]) {
                    child++;
                }
                if (row[child] <= sinking) {
                    break;
                }
                row[hole] = row[child];
                hole = child;
            }
            row[hole] = sinking;
        }

        /** Three numbers (-2048 to 2047 each) as one, that is greater if they are, place by place. */
        static long joined(int i, int j, int k) {
            return ((long) (i + OFFSET) << 2 * BITS) | ((long) (j + OFFSET) << BITS) | (long) (k + OFFSET);
        }

        static int part(long joined, int which) {
            return (int) ((joined >> (2 - which) * BITS) & MASK) - OFFSET;
        }
    }

    /**
     * A nest as its text tells it. Loops that it has not go from 0 to 0, so that
     * every nest can be gone through as if it were three deep.
     */
    private static final class Told {
        int depth = 0;
        int statements = 0;
        int touches = 0;
        int wordPlace = 0;
        /** Of each loop its first, then its last: a number, then how often i, j, k. */
        final int[] bounds = new int[LOOPS_MOST * 8];
        /** Of each ref its subscripts, likewise. */
        final int[] subscripts = new int[TOUCHES_MOST * 8];
        final int[] arrays = new int[TOUCHES_MOST];
        final int[] dimensions = new int[TOUCHES_MOST];
        /** Refs as they are touched: a statement's own one is told first but touched last. */
        final int[] refs = new int[TOUCHES_MOST];
        final boolean[] writes = new boolean[TOUCHES_MOST];

        void clear(int place) {
            depth = 0;
            statements = 0;
            touches = 0;
            wordPlace = place;
            Arrays.fill(bounds, 0);
            Arrays.fill(subscripts, 0);
        }

        void addTouch(int ref, boolean write) {
            if (touches < TOUCHES_MOST) {
                refs[touches] = ref;
                writes[touches] = write;
                touches++;
            }
        }

        static int sumAt(int[] sums, int from, int i, int j, int k) {
            return sums[from] + sums[from + 1] * i + sums[from + 2] * j + sums[from + 3] * k;
        }

        int first(int loop, int i, int j) {
            return sumAt(bounds, 8 * loop, i, j, 0);
        }

        int last(int loop, int i, int j) {
            return sumAt(bounds, 8 * loop + 4, i, j, 0);
        }

        static boolean isBeyond(int first, int last) {
            return first <= last && (first < -VALUE_MOST || last > VALUE_MOST);
        }

        boolean isTooLarge() {
            int turns = 0;
            int end = last(0, 0, 0);
            for (int i = first(0, 0, 0); i <= end; i++) {
                int first = first(1, i, 0);
                int last = last(1, i, 0);
                if (isBeyond(first, last)) {
                    return true;
                }
                for (int j = first; j <= last; j++) {
                    int from = first(2, i, j);
                    int to = last(2, i, j);
                    if (isBeyond(from, to)) {
                        return true;
                    }
                    turns += Math.max(0, to - from + 1);
                    if (turns > TURNS_MOST) {
                        return true;
                    }
                }
            }
            return false;
        }

        /** The element that a touch is of: its array, how many subscripts, the subscripts (17 bits each). */
        long elementAt(int touch, int i, int j, int k) {
            int ref = refs[touch];
            long first = sumAt(subscripts, 8 * ref, i, j, k) + 65536;
            long second = sumAt(subscripts, 8 * ref + 4, i, j, k) + 65536;
            return ((long) (2 * arrays[ref] + dimensions[ref] - 1) << 34) | (first << 17) | second;
        }

        int addressAt(int touch, int i, int j, int k, int width) {
            int ref = refs[touch];
            int first = sumAt(subscripts, 8 * ref, i, j, k);
            int second = sumAt(subscripts, 8 * ref + 4, i, j, k);
            return 4096 * arrays[ref] + (dimensions[ref] == 2 ? width * first + second : first);
        }
    }

    /** Reads a text, from the left up to its first fault. */
    private static final class Reader {
        static final int END = 0;
        static final int BAD = 1;
        static final int WORD = 2;
        static final int NEST = 3;
        static final int FROM = 4;
        static final int TO = 5;
        static final int VARIABLE = 6;
        static final int ARRAY = 7;
        static final int NUMBER = 8;
        static final String SINGLE = "=+-*[],;:";

        /** Tokens: kinds (as above, or the single sign), places, values. The last one is END or BAD. */
        final int[] kinds = new int[TAPE_MOST + 2];
        final int[] places = new int[TAPE_MOST + 2];
        final int[] values = new int[TAPE_MOST + 2];
        int size = 0;
        int next = 0;
        int fault = 0;
        Told told = new Told();

        /** How many nests there are, or -2 less (8 * place + kind) of the first fault. */
        int read(int[] tape, int length, Told[] nests) {
            part(tape, length);
            next = 0;
            fault = 0;
            int read = 0;
            while (read < nests.length) {
                told = nests[read];
                if (!loops() || !statements()) {
                    return fault;
                }
                read++;
                if (kind() == END) {
                    return sized(nests, read);
                }
                if (read < nests.length) {
                    next++;
                }
            }
            refuse(3);
            return fault;
        }

        int sized(Told[] nests, int read) {
            for (int i = 0; i < read && i < nests.length; i++) {
                if (nests[i].isTooLarge()) {
                    return faultAt(nests[i].wordPlace, 4);
                }
            }
            return read;
        }

        static int faultAt(int place, int kind) {
            return -2 - (8 * place + kind);
        }

        boolean refuse(int kind) {
            fault = faultAt(next < size ? places[next] : 0, kind);
            return false;
        }

        int kind() {
            return next < size ? kinds[next] : END;
        }

        int kindBehind() {
            return next + 1 < size ? kinds[next + 1] : END;
        }

        boolean take(int kind) {
            if (kind() != kind) {
                return refuse(1);
            }
            next++;
            return true;
        }

        boolean loops() {
            told.clear(next < size ? places[next] : 0);
            if (!take(NEST)) {
                return false;
            }
            for (int v = 0; v < LOOPS_MOST; v++) {
                if (!loop(v)) {
                    return false;
                }
                told.depth = v + 1;
                if (kind() != ',') {
                    return take(':');
                }
                if (v == LOOPS_MOST - 1) {
                    return refuse(3);
                }
                next++;
            }
            return false;
        }

        boolean loop(int v) {
            if (kind() == VARIABLE && values[next] != v) {
                return refuse(1);
            }
            return take(VARIABLE) && take(FROM) && sum(told.bounds, 8 * v, v)
                && take(TO) && sum(told.bounds, 8 * v + 4, v);
        }

        boolean statements() {
            for (int s = 0; s < STATEMENTS_MOST; s++) {
                if (!statement()) {
                    return false;
                }
                told.statements = s + 1;
                if (kind() == END || kind() == ';') {
                    return true;
                }
                if (kind() != ',') {
                    return refuse(1);
                }
                if (s == STATEMENTS_MOST - 1) {
                    return refuse(3);
                }
                next++;
            }
            return false;
        }

        boolean statement() {
            int own = told.touches;
            if (!ref(own) || !take('=')) {
                return false;
            }
            for (int reads = 0; reads <= READS_MOST && kind() == ARRAY; reads++) {
                if (reads == READS_MOST) {
                    return refuse(3);
                }
                int ref = told.touches + 1;
                if (!ref(ref)) {
                    return false;
                }
                told.addTouch(ref, false);
            }
            told.addTouch(own, true);
            return true;
        }

        boolean ref(int ref) {
            if (kind() != ARRAY || ref >= TOUCHES_MOST) {
                return refuse(1);
            }
            told.arrays[ref] = values[next];
            next++;
            for (int d = 0; d < 2; d++) {
                if (d == 1 && kind() != '[') {
                    break;
                }
                if (!take('[') || !sum(told.subscripts, 8 * ref + 4 * d, told.depth) || !take(']')) {
                    return false;
                }
                told.dimensions[ref] = d + 1;
            }
            return true;
        }

        /** Reads a sum into the four numbers of a row; known: how many variables may stand in it. */
        boolean sum(int[] row, int from, int known) {
            int sign = 1;
            if (kind() == '-') {
                sign = -1;
                next++;
            }
            for (int terms = 1; terms <= TERMS_MOST; terms++) {
                int wrong = term(row, from, known, sign);
                if (wrong != 0) {
                    return refuse(wrong);
                }
                if (kind() != '+' && kind() != '-') {
                    return true;
                }
                if (terms == TERMS_MOST) {
                    return refuse(3);
                }
                sign = kind() == '-' ? -1 : 1;
                next++;
            }
            return false;
        }

        /** The kind of the fault at the token that is next then, or 0. */
        int term(int[] row, int from, int known, int sign) {
            int factor = 1;
            if (kind() == NUMBER) {
                factor = values[next];
                if (kindBehind() != '*') {
                    row[from] += sign * factor;
                    next++;
                    return 0;
                }
                if (factor > NUMBER_MOST) {
                    return 2;
                }
                next += 2;
            }
            if (kind() != VARIABLE) {
                return 1;
            }
            int variable = values[next];
            if (variable >= known) {
                return 2;
            }
            row[from + 1 + variable] += sign * factor;
            next++;
            return 0;
        }

        /** Parts the tape into tokens, up to the first byte that begins none. */
        void part(int[] tape, int length) {
            size = 0;
            int end = 0;
            for (int place = 0; place < length && place < tape.length; place++) {
                if (place >= end) {
                    end = putToken(tape, place, length);
                }
                if (end == NONE) {
                    put(BAD, place, 0);
                    return;
                }
            }
            put(END, length, 0);
        }

        /** Puts the token that begins at a place, if it is no blank: where it ends; NONE if none begins there. */
        int putToken(int[] tape, int place, int length) {
            int b = tape[place];
            if (b == ' ' || b == 10) {
                return place + 1;
            }
            if (isLetter(b)) {
                return putWord(tape, place, length);
            }
            if (isDigit(b)) {
                return putNumber(tape, place, length);
            }
            if (SINGLE.indexOf((char) b) < 0) {
                return NONE;
            }
            put(b, place, 0);
            return place + 1;
        }

        void put(int kind, int place, int value) {
            if (size < kinds.length) {
                kinds[size] = kind;
                places[size] = place;
                values[size] = value;
                size++;
            }
        }

        static boolean isLetter(int b) {
            return b >= 'a' && b <= 'z';
        }

        static boolean isDigit(int b) {
            return b >= '0' && b <= '9';
        }

        int putNumber(int[] tape, int place, int length) {
            int value = tape[place] - '0';
            int end = place + 1;
            if (end < length && end < tape.length && isDigit(tape[end])) {
                value = 10 * value + tape[end] - '0';
                end++;
            }
            put(NUMBER, place, value);
            return end;
        }

        int putWord(int[] tape, int place, int length) {
            int end = place;
            while (end < length && end < tape.length && isLetter(tape[end])) {
                end++;
            }
            int b = tape[place];
            if (end == place + 1 && b >= 'i' && b <= 'k') {
                put(VARIABLE, place, b - 'i');
            } else if (end == place + 1 && b <= 'd') {
                put(ARRAY, place, b - 'a');
            } else if (isWord(tape, place, end, "nest")) {
                put(NEST, place, 0);
            } else if (isWord(tape, place, end, "from")) {
                put(FROM, place, 0);
            } else if (isWord(tape, place, end, "to")) {
                put(TO, place, 0);
            } else {
                put(WORD, place, 0);
            }
            return end;
        }

        static boolean isWord(int[] tape, int place, int end, String word) {
            if (end - place != word.length()) {
                return false;
            }
            for (int i = 0; i < word.length(); i++) {
                if (tape[place + i] != word.charAt(i)) {
                    return false;
                }
            }
            return true;
        }
    }

    /** A nest: its turns as told, and what is found of them. */
    private static final class Nest {
        Told told = new Told();
        int turns = 0;
        final int[] values = new int[3 * TURNS_MOST];
        final Plan plan = new Plan();
        final Pairs pairs = new Pairs();
        final Lines lines = new Lines();

        /** Becomes what is told; gives back what it was told of, to be written anew. */
        Told take(Told next) {
            Told old = told;
            told = next;
            turns = 0;
            int end = told.last(0, 0, 0);
            for (int i = told.first(0, 0, 0); i <= end; i++) {
                int last = told.last(1, i, 0);
                for (int j = told.first(1, i, 0); j <= last; j++) {
                    addTurns(i, j);
                }
            }
            plan.reset(told.depth);
            pairs.known = false;
            lines.known = false;
            return old;
        }

        void addTurns(int i, int j) {
            int last = told.last(2, i, j);
            for (int k = told.first(2, i, j); k <= last && turns < TURNS_MOST; k++) {
                values[3 * turns] = i;
                values[3 * turns + 1] = j;
                values[3 * turns + 2] = k;
                turns++;
            }
        }

        boolean isAt(int turn, int i, int j, int k) {
            return values[3 * turn] == i && values[3 * turn + 1] == j && values[3 * turn + 2] == k;
        }

        long elementAt(int turn, int touch) {
            return told.elementAt(touch, values[3 * turn], values[3 * turn + 1], values[3 * turn + 2]);
        }

        int addressAt(int turn, int touch, int width) {
            return told.addressAt(touch, values[3 * turn], values[3 * turn + 1], values[3 * turn + 2], width);
        }

        /** From a turn of another nest to one of this one. */
        long stepsFrom(Nest other, int p, int q) {
            return Numbers.joined(values[3 * q] - other.values[3 * p],
                values[3 * q + 1] - other.values[3 * p + 1], values[3 * q + 2] - other.values[3 * p + 2]);
        }
    }

    /** The pairs of a nest, by distance, rising. */
    private static final class Pairs {
        static final int FLOW = 0;
        static final int ANTI = 1;
        static final int OUTPUT = 2;

        boolean known = false;
        int size = 0;
        /** Each one's distance (36 bits), turn p (9), turn q (9), kind (2). */
        final long[] row = new long[PAIRS_MOST];
        final int[] signs = new int[27];

        void ready(Nest nest, long[] scratch) {
            if (known) {
                return;
            }
            int touched = 0;
            for (int turn = 0; turn < nest.turns; turn++) {
                for (int t = 0; t < nest.told.touches && touched < scratch.length; t++) {
                    scratch[touched] = (nest.elementAt(turn, t) << SEQUENCE_BITS) | turn << TOUCH_BITS | t;
                    touched++;
                }
            }
            Numbers.sort(scratch, touched);
            size = 0;
            goThrough(nest, scratch, touched);
            Numbers.sort(row, size);
            known = true;
        }

        /** Finds the pairs of touches that stand by element, then as told. */
        void goThrough(Nest nest, long[] sorted, int touched) {
            long element = NONE;
            int written = NONE;
            int readsFrom = 0;
            for (int s = 0; s < touched; s++) {
                int touch = (int) (sorted[s] & SEQUENCE_MASK);
                if (sorted[s] >> SEQUENCE_BITS != element) {
                    element = sorted[s] >> SEQUENCE_BITS;
                    written = NONE;
                    readsFrom = s;
                }
                boolean writes = nest.told.writes[touch & TOUCH_MASK];
                if (written != NONE) {
                    add(nest, written, touch, writes ? OUTPUT : FLOW);
                }
                if (writes) {
                    for (int r = readsFrom; r < s; r++) {
                        add(nest, (int) (sorted[r] & SEQUENCE_MASK), touch, ANTI);
                    }
                    written = touch;
                    readsFrom = s + 1;
                }
            }
        }

        void add(Nest nest, int earlier, int later, int kind) {
            int p = earlier >> TOUCH_BITS;
            int q = later >> TOUCH_BITS;
            if (p != q && size < PAIRS_MOST) {
                row[size] = (nest.stepsFrom(nest, p, q) << 20) | p << 11 | q << 2 | kind;
                size++;
            }
        }

        int earlier(int i) {
            return (int) (row[i] >> 11) & 511;
        }

        int later(int i) {
            return (int) (row[i] >> 2) & 511;
        }

        int apart(int i, int variable) {
            return Numbers.part(row[i] >> 20, variable);
        }

        int ofKind(int kind) {
            int found = 0;
            for (int i = 0; i < size; i++) {
                if ((row[i] & 3) == kind) {
                    found++;
                }
            }
            return found;
        }

        boolean isNew(int i) {
            return i == 0 || row[i] >> 20 != row[i - 1] >> 20;
        }

        int distances() {
            int found = 0;
            for (int i = 0; i < size; i++) {
                if (isNew(i)) {
                    found++;
                }
            }
            return found;
        }

        /** Where the pairs of the n-th distance begin. */
        int startOf(int n) {
            int found = NONE;
            for (int i = 0; i < size; i++) {
                if (isNew(i)) {
                    found++;
                    if (found == n) {
                        return i;
                    }
                }
            }
            return NONE;
        }

        int alikeFrom(int start) {
            int end = start + 1;
            while (end < size && !isNew(end)) {
                end++;
            }
            return end - start;
        }

        static int signsJoined(int a, int b, int c) {
            return 9 * (Integer.signum(a) + 1) + 3 * (Integer.signum(b) + 1) + Integer.signum(c) + 1;
        }

        void countSigns() {
            Arrays.fill(signs, 0);
            for (int i = 0; i < size; i++) {
                signs[signsJoined(apart(i, 0), apart(i, 1), apart(i, 2))]++;
            }
        }

        int directions() {
            countSigns();
            int found = 0;
            for (int i = 0; i < signs.length; i++) {
                if (signs[i] > 0) {
                    found++;
                }
            }
            return found;
        }

        int directed(int a, int b, int c) {
            countSigns();
            return signs[signsJoined(a, b, c)];
        }

        int firstBroken(Plan plan) {
            for (int i = 0; i < size; i++) {
                if (!plan.isAhead(earlier(i), later(i))) {
                    return i;
                }
            }
            return NONE;
        }

        int brokenBy(Plan plan) {
            int found = 0;
            for (int i = 0; i < size; i++) {
                if (!plan.isAhead(earlier(i), later(i))) {
                    found++;
                }
            }
            return found;
        }

        int carriedBy(Plan plan, int place) {
            int found = 0;
            for (int i = 0; i < size; i++) {
                if (plan.firstUnlike(earlier(i), later(i)) == place) {
                    found++;
                }
            }
            return found;
        }

        /** Whether no pair that is alike at all levels ahead of start goes down at a level. */
        boolean neverFalls(Plan plan, int start, int level) {
            for (int i = 0; i < size; i++) {
                int p = earlier(i);
                int q = later(i);
                if (plan.y[3 * q + level] < plan.y[3 * p + level] && plan.areAlikeAhead(p, q, start)) {
                    return false;
                }
            }
            return true;
        }
    }

    /** The change and the tile of a nest, and the order of its turns by them. */
    private static final class Plan {
        static final int Y_OFFSET = 32768;

        int depth = 0;
        /** Three rows of three; behind the depth they change nothing. */
        final int[] rows = new int[9];
        int from = 0;
        int levels = 0;
        int size = 0;
        boolean known = false;
        final int[] y = new int[3 * TURNS_MOST];
        final int[] order = new int[TURNS_MOST];

        void reset(int loops) {
            depth = loops;
            for (int i = 0; i < rows.length; i++) {
                rows[i] = i % 4 == 0 ? 1 : 0;
            }
            putTile(0, 0, 0);
        }

        void putTile(int f, int n, int s) {
            from = f;
            levels = n;
            size = s;
            known = false;
        }

        boolean isLevel(int level) {
            return level >= 0 && level < depth;
        }

        boolean fits(int f, int n) {
            return isLevel(f) && n >= 1 && n <= depth - f;
        }

        boolean exchange(int level, int other) {
            if (!isLevel(level) || !isLevel(other) || level == other) {
                return false;
            }
            for (int c = 0; c < 3; c++) {
                int number = rows[3 * level + c];
                rows[3 * level + c] = rows[3 * other + c];
                rows[3 * other + c] = number;
            }
            known = false;
            return true;
        }

        boolean negate(int level) {
            if (!isLevel(level)) {
                return false;
            }
            for (int c = 0; c < 3; c++) {
                rows[3 * level + c] = -rows[3 * level + c];
            }
            known = false;
            return true;
        }

        boolean addRow(int level, int by, int f) {
            if (!isLevel(level) || !isLevel(by) || level == by || f == 0 || !isWithin(f, NUMBER_MOST)) {
                return false;
            }
            for (int c = 0; c < 3; c++) {
                if (!isWithin(rows[3 * level + c] + f * rows[3 * by + c], NUMBER_MOST)) {
                    return false;
                }
            }
            for (int c = 0; c < 3; c++) {
                rows[3 * level + c] += f * rows[3 * by + c];
            }
            known = false;
            return true;
        }

        int cofactor(int row, int column) {
            int r1 = 3 * ((row + 1) % 3);
            int r2 = 3 * ((row + 2) % 3);
            int c1 = (column + 1) % 3;
            int c2 = (column + 2) % 3;
            return rows[r1 + c1] * rows[r2 + c2] - rows[r1 + c2] * rows[r2 + c1];
        }

        /** The change undone; its determinant is 1 or -1, so that to multiply is to divide. */
        int back(int variable, int level) {
            int determinant = rows[0] * cofactor(0, 0) + rows[1] * cofactor(0, 1) + rows[2] * cofactor(0, 2);
            return determinant * cofactor(level, variable);
        }

        int places() {
            return depth + levels;
        }

        int keyAt(int turn, int place) {
            if (place < from) {
                return y[3 * turn + place];
            }
            if (place < from + levels) {
                return Math.floorDiv(y[3 * turn + place], Math.max(1, size));
            }
            return y[3 * turn + place - levels];
        }

        int firstUnlike(int p, int q) {
            for (int place = 0; place < depth + levels; place++) {
                if (keyAt(p, place) != keyAt(q, place)) {
                    return place;
                }
            }
            return NONE;
        }

        boolean isAhead(int p, int q) {
            int place = firstUnlike(p, q);
            return place != NONE && keyAt(p, place) < keyAt(q, place);
        }

        boolean areAlikeAhead(int p, int q, int level) {
            for (int l = 0; l < level; l++) {
                if (y[3 * p + l] != y[3 * q + l]) {
                    return false;
                }
            }
            return true;
        }

        boolean areOfOneTile(int p, int q) {
            for (int place = 0; place < from + levels; place++) {
                if (keyAt(p, place) != keyAt(q, place)) {
                    return false;
                }
            }
            return true;
        }

        void ready(Nest nest, long[] scratch) {
            if (known) {
                return;
            }
            for (int turn = 0; turn < nest.turns; turn++) {
                for (int l = 0; l < 3; l++) {
                    y[3 * turn + l] = rows[3 * l] * nest.values[3 * turn]
                        + rows[3 * l + 1] * nest.values[3 * turn + 1] + rows[3 * l + 2] * nest.values[3 * turn + 2];
                }
                scratch[turn] = keyJoined(turn) * 512 + turn;
            }
            Numbers.sort(scratch, nest.turns);
            for (int i = 0; i < nest.turns; i++) {
                order[i] = (int) (scratch[i] & 511);
            }
            known = true;
        }

        /**
         * The key as one number. Behind the parts by size what each leaves stands for
         * all of it: so a level takes some 16 bits, tiled or not, and all fit in a long.
         */
        long keyJoined(int turn) {
            int by = Math.max(1, size);
            long joined = 0;
            for (int place = 0; place < depth + levels; place++) {
                int part = keyAt(turn, place);
                if (place >= from && place < from + levels) {
                    joined = joined * (2 * Y_OFFSET / by + 2) + part - Math.floorDiv(-Y_OFFSET, by);
                } else if (place >= from + levels && place < from + 2 * levels) {
                    joined = joined * by + Math.floorMod(part, by);
                } else {
                    joined = joined * (2 * Y_OFFSET) + part + Y_OFFSET;
                }
            }
            return joined;
        }
    }

    /**
     * Bounds of the levels: walls, numbers times Y at most a number. Those of a level
     * come from those of the next one by putting each wall above against each below.
     */
    private static final class Spans {
        static final int WALLS_MOST = 20;

        /** Of each level its walls, four numbers each: how often Y of each level, then what it is at most. */
        final long[][] walls = new long[LOOPS_MOST][4 * WALLS_MOST];
        final int[] sizes = new int[LOOPS_MOST];
        final long[] wall = new long[4];
        long least = 0;
        long greatest = 0;

        void build(Told told, Plan plan) {
            Arrays.fill(sizes, 0);
            for (int v = 0; v < LOOPS_MOST; v++) {
                addBound(told, plan, v, 8 * v, -1);
                addBound(told, plan, v, 8 * v + 4, 1);
            }
            dropLevel(2);
            dropLevel(1);
        }

        /** The wall of a variable: side times it is at most side times its bound. */
        void addBound(Told told, Plan plan, int variable, int from, int side) {
            Arrays.fill(wall, 0);
            for (int v = 0; v < LOOPS_MOST; v++) {
                int times = side * ((v == variable ? 1 : 0) - told.bounds[from + 1 + v]);
                for (int l = 0; l < LOOPS_MOST; l++) {
                    wall[l] += times * plan.back(v, l);
                }
            }
            wall[3] = side * told.bounds[from];
            addWall(2);
        }

        void addWall(int level) {
            if (sizes[level] < WALLS_MOST) {
                System.arraycopy(wall, 0, walls[level], 4 * sizes[level], 4);
                sizes[level]++;
            }
        }

        void dropLevel(int level) {
            for (int a = 0; a < sizes[level]; a++) {
                long above = walls[level][4 * a + level];
                if (above == 0) {
                    System.arraycopy(walls[level], 4 * a, wall, 0, 4);
                    addWall(level - 1);
                }
                for (int b = 0; above > 0 && b < sizes[level]; b++) {
                    long below = walls[level][4 * b + level];
                    if (below < 0) {
                        join(walls[level], 4 * a, -below, 4 * b, above);
                        addWall(level - 1);
                    }
                }
            }
        }

        void join(long[] row, int a, long timesA, int b, long timesB) {
            for (int i = 0; i < 4; i++) {
                wall[i] = timesA * row[a + i] + timesB * row[b + i];
            }
        }

        /** How many whole numbers a level's span has, from the least to the greatest. */
        long width(int level, long y0, long y1) {
            least = NOWHERE;
            greatest = -NOWHERE;
            for (int w = 0; w < sizes[level]; w++) {
                long[] row = walls[level];
                long rest = row[4 * w + 3] - (level > 0 ? row[4 * w] * y0 : 0) - (level > 1 ? row[4 * w + 1] * y1 : 0);
                long times = row[4 * w + level];
                if (times > 0) {
                    greatest = Math.min(greatest, Math.floorDiv(rest, times));
                } else if (times < 0) {
                    least = Math.max(least, -Math.floorDiv(rest, -times));
                } else if (rest < 0) {
                    return 0;
                }
            }
            return Math.max(0, greatest - least + 1);
        }

        long widthsOfSecond() {
            if (width(0, 0, 0) == 0) {
                return 0;
            }
            long end = greatest;
            long all = 0;
            for (long y0 = least; y0 <= end; y0++) {
                all += width(1, y0, 0);
            }
            return all;
        }
    }

    /** Two nests run as one. */
    private static final class Fusion {
        boolean known = false;
        /** Whether any two touches bind the nests to one another; then the least shift. */
        boolean bound = false;
        long least = 0;
        final int[] shift = new int[3];
        /** Of one element: the last touch, the last write of the first nest; the first ones of the second. */
        int lastTouch = NONE;
        int lastWrite = NONE;
        int firstTouch = NONE;
        int firstWrite = NONE;

        void ready(Nest first, Nest second, long[] scratch) {
            if (known) {
                return;
            }
            int size = put(second, 1, put(first, 0, 0, scratch), scratch);
            Numbers.sort(scratch, size);
            bound = false;
            forgetElement();
            for (int s = 0; s < size; s++) {
                long touch = scratch[s];
                meet((touch >> SEQUENCE_BITS & 1) == 0 ? first : second, touch, (touch >> SEQUENCE_BITS & 1) == 0);
                if (s + 1 == size || scratch[s + 1] >> SEQUENCE_BITS + 1 != touch >> SEQUENCE_BITS + 1) {
                    bind(first, lastTouch, second, firstWrite);
                    bind(first, lastWrite, second, firstTouch);
                    forgetElement();
                }
            }
            known = true;
        }

        static int put(Nest nest, int which, int from, long[] scratch) {
            int size = from;
            for (int turn = 0; turn < nest.turns; turn++) {
                for (int t = 0; t < nest.told.touches && size < scratch.length; t++) {
                    long element = 2 * nest.elementAt(turn, t) + which;
                    scratch[size] = (element << SEQUENCE_BITS) | turn << TOUCH_BITS | t;
                    size++;
                }
            }
            return size;
        }

        void forgetElement() {
            lastTouch = NONE;
            lastWrite = NONE;
            firstTouch = NONE;
            firstWrite = NONE;
        }

        void meet(Nest nest, long touch, boolean ofFirst) {
            int turn = (int) (touch & SEQUENCE_MASK) >> TOUCH_BITS;
            boolean writes = nest.told.writes[(int) touch & TOUCH_MASK];
            if (ofFirst) {
                lastTouch = turn;
                lastWrite = writes ? turn : lastWrite;
            } else {
                firstTouch = firstTouch == NONE ? turn : firstTouch;
                firstWrite = writes && firstWrite == NONE ? turn : firstWrite;
            }
        }

        /** The shift must bring q to p at least; of all elements the greatest such one is the least that keeps all. */
        void bind(Nest first, int p, Nest second, int q) {
            if (p == NONE || q == NONE) {
                return;
            }
            long steps = first.stepsFrom(second, q, p);
            if (!bound || steps > least) {
                bound = true;
                least = steps;
            }
        }

        boolean isKept() {
            return !bound || Numbers.joined(shift[0], shift[1], shift[2]) >= least;
        }

        void run(Nest first, Nest second, Memory memory) {
            int p = 0;
            int q = 0;
            while (p < first.turns || q < second.turns) {
                if (q >= second.turns || p < first.turns && comesFirst(first, p, second, q)) {
                    memory.run(first, p);
                    p++;
                } else {
                    memory.run(second, q);
                    q++;
                }
            }
        }

        boolean comesFirst(Nest first, int p, Nest second, int q) {
            return first.stepsFrom(second, q, p) <= Numbers.joined(shift[0], shift[1], shift[2]);
        }
    }

    /** The lines that each touch of a nest is of, by small numbers. */
    private static final class Lines {
        static final int OFFSET = 1 << 22;

        boolean known = false;
        int knownWidth = 0;
        int knownLength = 0;
        int size = 0;
        final int[] ofTouch = new int[ALL_TOUCHES];
        final int[] numbers = new int[ALL_TOUCHES];

        void ready(Nest nest, int width, int length, long[] scratch) {
            if (known && width == knownWidth && length == knownLength) {
                return;
            }
            int by = Math.max(1, length);
            int touched = 0;
            for (int turn = 0; turn < nest.turns; turn++) {
                for (int t = 0; t < nest.told.touches && touched < scratch.length; t++) {
                    long line = Math.floorDiv(nest.addressAt(turn, t, width), by) + OFFSET;
                    scratch[touched] = (line << SEQUENCE_BITS) | turn << TOUCH_BITS | t;
                    touched++;
                }
            }
            Numbers.sort(scratch, touched);
            number(scratch, touched);
            known = true;
            knownWidth = width;
            knownLength = length;
        }

        void number(long[] sorted, int touched) {
            size = 0;
            for (int s = 0; s < touched; s++) {
                int line = (int) (sorted[s] >> SEQUENCE_BITS) - OFFSET;
                if (size == 0 || numbers[size - 1] != line) {
                    numbers[size] = line;
                    size++;
                }
                int sequence = (int) (sorted[s] & SEQUENCE_MASK);
                ofTouch[TOUCHES_MOST * (sequence >> TOUCH_BITS) + (sequence & TOUCH_MASK)] = size - 1;
            }
        }
    }

    /** The cache. */
    private static final class Memory {
        /** WIDTH, L, SETS, WAYS. */
        final int[] told = Arrays.copyOf(CACHE_FIRST, CACHE_FIRST.length);
        /** Of each set its lines, and when each was touched last (0: there is none). */
        final int[] lines = new int[128];
        final int[] times = new int[128];
        int time = 0;
        int missed = 0;

        void empty() {
            Arrays.fill(times, 0);
            time = 0;
            missed = 0;
        }

        void run(Nest nest, int turn) {
            for (int t = 0; t < nest.told.touches; t++) {
                meet(nest.lines.numbers[nest.lines.ofTouch[TOUCHES_MOST * turn + t]]);
            }
        }

        void meet(int line) {
            time++;
            int ways = told[3];
            int start = Math.floorMod(line, Math.max(1, told[2])) * ways;
            int oldest = start;
            for (int w = start; w < start + ways; w++) {
                if (times[w] > 0 && lines[w] == line) {
                    times[w] = time;
                    return;
                }
                if (times[w] < times[oldest]) {
                    oldest = w;
                }
            }
            missed++;
            lines[oldest] = line;
            times[oldest] = time;
        }
    }

    /** Goes through the tiles of a nest in order. */
    private static final class Tiles {
        int size = 0;
        int reckoned = 0;
        int greatest = 0;
        int wantedLines = 0;
        int wantedTurns = 0;
        int wantedAgain = 0;
        /** Of the tile that is gone through: its lines, its turns, lines of the one ahead of it, too. */
        int nowLines = 0;
        int nowTurns = 0;
        int nowAgain = 0;
        /** Of each line the tile that touched it last. */
        final int[] lastTile = new int[ALL_TOUCHES];

        void goThrough(Nest nest, int wanted) {
            size = 0;
            reckoned = 0;
            greatest = 0;
            // Not NONE: that would stand just ahead of the first tile.
            Arrays.fill(lastTile, NOWHERE);
            for (int p = 0; p < nest.turns; p++) {
                int turn = nest.plan.order[p];
                if (p == 0 || !nest.plan.areOfOneTile(nest.plan.order[p - 1], turn)) {
                    endTile(wanted);
                    size++;
                }
                nowTurns++;
                for (int t = 0; t < nest.told.touches; t++) {
                    meet(nest.lines.ofTouch[TOUCHES_MOST * turn + t]);
                }
            }
            endTile(wanted);
        }

        void meet(int line) {
            int tile = size - 1;
            if (lastTile[line] == tile) {
                return;
            }
            nowLines++;
            if (lastTile[line] == tile - 1) {
                nowAgain++;
            }
            lastTile[line] = tile;
        }

        void endTile(int wanted) {
            if (size > 0 && size - 1 == wanted) {
                wantedLines = nowLines;
                wantedTurns = nowTurns;
                wantedAgain = nowAgain;
            }
            reckoned += nowLines - nowAgain;
            greatest = Math.max(greatest, nowLines);
            nowLines = 0;
            nowTurns = 0;
            nowAgain = 0;
        }
    }
}

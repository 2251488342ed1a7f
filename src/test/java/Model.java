import java.math.BigInteger;
import java.util.ArrayList;
import java.util.Arrays;
import java.util.HashSet;
import java.util.List;
import java.util.Random;
import java.util.Set;
import java.util.TreeMap;

/**
 * The document's terms done again as plainly as can be, by their words and without
 * regard to speed: what the class answers is put against it.
 */
final class Model {
    /** A sum: a number, then how often i, j, k. */
    static final class Ref {
        int array;
        int[][] subscripts;
    }

    static final class Statement {
        Ref write;
        List<Ref> reads = new ArrayList<>();
    }

    static final class Touch {
        int[] turn;
        int number;
        boolean writes;
        String element;
        Ref ref;
    }

    static final class Pair {
        int[] p;
        int[] q;
        int kind;
    }

    final int depth;
    final int[][] first;
    final int[][] last;
    final List<Statement> statements = new ArrayList<>();
    List<int[]> turns = new ArrayList<>();
    boolean tooLarge = false;
    int[][] change;
    int f = 0;
    int n = 0;
    int size = 0;

    Model(int depth) {
        this.depth = depth;
        first = new int[depth][4];
        last = new int[depth][4];
        anew();
    }

    void anew() {
        change = new int[depth][depth];
        for (int l = 0; l < depth; l++) {
            change[l][l] = 1;
        }
        f = 0;
        n = 0;
        size = 0;
    }

    // ---- turns

    static int sum(int[] sum, int[] values) {
        int all = sum[0];
        for (int v = 0; v < values.length; v++) {
            all += sum[v + 1] * values[v];
        }
        return all;
    }

    void findTurns() {
        turns.clear();
        tooLarge = false;
        goDown(new int[0]);
        if (turns.size() > 500) {
            tooLarge = true;
        }
    }

    private void goDown(int[] ahead) {
        if (tooLarge || turns.size() > 500) {
            return;
        }
        int v = ahead.length;
        if (v == depth) {
            turns.add(ahead);
            return;
        }
        int from = sum(first[v], ahead);
        int to = sum(last[v], ahead);
        for (int x = from; x <= to; x++) {
            if (x < -999 || x > 999) {
                tooLarge = true;
                return;
            }
            int[] longer = Arrays.copyOf(ahead, v + 1);
            longer[v] = x;
            goDown(longer);
        }
    }

    int touchesOfTurn() {
        int all = 0;
        for (Statement s : statements) {
            all += s.reads.size() + 1;
        }
        return all;
    }

    List<Touch> touchesOf(int[] turn) {
        List<Touch> all = new ArrayList<>();
        for (Statement s : statements) {
            for (Ref r : s.reads) {
                all.add(touch(turn, r, false));
            }
            all.add(touch(turn, s.write, true));
        }
        return all;
    }

    private static Touch touch(int[] turn, Ref ref, boolean writes) {
        Touch t = new Touch();
        t.turn = turn;
        t.writes = writes;
        t.ref = ref;
        StringBuilder element = new StringBuilder().append(ref.array);
        for (int[] s : ref.subscripts) {
            element.append(' ').append(sum(s, turn));
        }
        t.element = element.toString();
        return t;
    }

    // ---- pairs

    List<Pair> pairs() {
        TreeMap<String, List<Touch>> byElement = new TreeMap<>();
        for (int[] turn : turns) {
            for (Touch t : touchesOf(turn)) {
                byElement.computeIfAbsent(t.element, e -> new ArrayList<>()).add(t);
            }
        }
        List<Pair> pairs = new ArrayList<>();
        for (List<Touch> list : byElement.values()) {
            for (int a = 0; a < list.size(); a++) {
                for (int b = a + 1; b < list.size(); b++) {
                    addPair(pairs, list, a, b);
                }
            }
        }
        return pairs;
    }

    private static void addPair(List<Pair> pairs, List<Touch> list, int a, int b) {
        Touch p = list.get(a);
        Touch q = list.get(b);
        if (Arrays.equals(p.turn, q.turn) || !p.writes && !q.writes) {
            return;
        }
        for (int between = a + 1; between < b; between++) {
            if (list.get(between).writes) {
                return;
            }
        }
        Pair pair = new Pair();
        pair.p = p.turn;
        pair.q = q.turn;
        pair.kind = p.writes && q.writes ? 2 : p.writes ? 0 : 1;
        pairs.add(pair);
    }

    static int[] less(int[] q, int[] p) {
        int[] d = new int[q.length];
        for (int v = 0; v < q.length; v++) {
            d[v] = q[v] - p[v];
        }
        return d;
    }

    // ---- order

    int[] y(int[] turn) {
        int[] y = new int[depth];
        for (int l = 0; l < depth; l++) {
            for (int v = 0; v < depth; v++) {
                y[l] += change[l][v] * turn[v];
            }
        }
        return y;
    }

    int[] key(int[] turn) {
        int[] y = y(turn);
        int[] key = new int[depth + n];
        int at = 0;
        for (int l = 0; l < f && n > 0; l++) {
            key[at++] = y[l];
        }
        for (int l = f; l < f + n; l++) {
            key[at++] = Math.floorDiv(y[l], size);
        }
        for (int l = n > 0 ? f : 0; l < depth; l++) {
            key[at++] = y[l];
        }
        return key;
    }

    List<int[]> order() {
        List<int[]> order = new ArrayList<>(turns);
        order.sort((a, b) -> Arrays.compare(key(a), key(b)));
        return order;
    }

    int band(List<Pair> pairs, int level) {
        int band = 0;
        for (int l = level; l < depth; l++) {
            for (Pair pair : pairs) {
                int[] p = y(pair.p);
                int[] q = y(pair.q);
                if (Arrays.equals(Arrays.copyOf(p, level), Arrays.copyOf(q, level)) && q[l] < p[l]) {
                    return band;
                }
            }
            band++;
        }
        return band;
    }

    // ---- bounds: corners of what the walls leave, each by Cramer's rule

    private static BigInteger determinant(BigInteger[][] m) {
        int d = m.length;
        if (d == 1) {
            return m[0][0];
        }
        BigInteger all = BigInteger.ZERO;
        for (int c = 0; c < d; c++) {
            BigInteger[][] smaller = new BigInteger[d - 1][d - 1];
            for (int r = 1; r < d; r++) {
                int at = 0;
                for (int o = 0; o < d; o++) {
                    if (o != c) {
                        smaller[r - 1][at++] = m[r][o];
                    }
                }
            }
            BigInteger part = m[0][c].multiply(determinant(smaller));
            all = c % 2 == 0 ? all.add(part) : all.subtract(part);
        }
        return all;
    }

    /** Walls as rows over the variables: numbers times variables at most the last one. */
    private List<long[]> walls() {
        List<long[]> walls = new ArrayList<>();
        for (int v = 0; v < depth; v++) {
            long[] above = new long[depth + 1];
            long[] below = new long[depth + 1];
            for (int o = 0; o < depth; o++) {
                above[o] = (o == v ? 1 : 0) - last[v][o + 1];
                below[o] = first[v][o + 1] - (o == v ? 1 : 0);
            }
            above[depth] = last[v][0];
            below[depth] = -first[v][0];
            walls.add(above);
            walls.add(below);
        }
        return walls;
    }

    /** The least and the greatest whole number, or null. */
    long[] span(int level, long[] ahead) {
        List<long[]> tight = new ArrayList<>();
        for (int l = 0; l < level; l++) {
            long[] row = new long[depth + 1];
            for (int v = 0; v < depth; v++) {
                row[v] = change[l][v];
            }
            row[depth] = ahead[l];
            tight.add(row);
        }
        List<long[]> walls = walls();
        BigInteger[][] ends = new BigInteger[2][];
        choose(walls, tight, 0, level, ends);
        if (ends[0] == null) {
            return null;
        }
        long least = -floor(ends[0][0].negate(), ends[0][1]);
        long greatest = floor(ends[1][0], ends[1][1]);
        return least > greatest ? null : new long[] {least, greatest};
    }

    private static long floor(BigInteger a, BigInteger b) {
        BigInteger[] parts = a.divideAndRemainder(b);
        return parts[1].signum() < 0 ? parts[0].longValueExact() - 1 : parts[0].longValueExact();
    }

    private void choose(List<long[]> walls, List<long[]> tight, int from, int level, BigInteger[][] ends) {
        if (tight.size() == depth) {
            corner(walls, tight, level, ends);
            return;
        }
        for (int w = from; w < walls.size(); w++) {
            tight.add(walls.get(w));
            choose(walls, tight, w + 1, level, ends);
            tight.remove(tight.size() - 1);
        }
    }

    private void corner(List<long[]> walls, List<long[]> tight, int level, BigInteger[][] ends) {
        BigInteger[][] m = new BigInteger[depth][depth];
        for (int r = 0; r < depth; r++) {
            for (int c = 0; c < depth; c++) {
                m[r][c] = BigInteger.valueOf(tight.get(r)[c]);
            }
        }
        BigInteger below = determinant(m);
        if (below.signum() == 0) {
            return;
        }
        BigInteger[] x = new BigInteger[depth];
        for (int c = 0; c < depth; c++) {
            BigInteger[][] other = new BigInteger[depth][];
            for (int r = 0; r < depth; r++) {
                other[r] = m[r].clone();
                other[r][c] = BigInteger.valueOf(tight.get(r)[depth]);
            }
            x[c] = determinant(other);
            if (below.signum() < 0) {
                x[c] = x[c].negate();
            }
        }
        below = below.abs();
        for (long[] wall : walls) {
            BigInteger all = BigInteger.ZERO;
            for (int c = 0; c < depth; c++) {
                all = all.add(BigInteger.valueOf(wall[c]).multiply(x[c]));
            }
            if (all.compareTo(BigInteger.valueOf(wall[depth]).multiply(below)) > 0) {
                return;
            }
        }
        BigInteger y = BigInteger.ZERO;
        for (int c = 0; c < depth; c++) {
            y = y.add(BigInteger.valueOf(change[level][c]).multiply(x[c]));
        }
        BigInteger[] here = {y, below};
        if (ends[0] == null || compare(here, ends[0]) < 0) {
            ends[0] = here;
        }
        if (ends[1] == null || compare(here, ends[1]) > 0) {
            ends[1] = here;
        }
    }

    private static int compare(BigInteger[] a, BigInteger[] b) {
        return a[0].multiply(b[1]).compareTo(b[0].multiply(a[1]));
    }

    long visits(int level, long[] ahead) {
        long[] span = span(ahead.length, ahead);
        if (span == null) {
            return 0;
        }
        if (ahead.length == level) {
            return span[1] - span[0] + 1;
        }
        long all = 0;
        for (long y = span[0]; y <= span[1]; y++) {
            long[] longer = Arrays.copyOf(ahead, ahead.length + 1);
            longer[ahead.length] = y;
            all += visits(level, longer);
        }
        return all;
    }

    // ---- two nests

    static boolean isFusedLegally(Model a, Model b, int[] shift) {
        int[] least = leastShift(a, b);
        if (least == null) {
            return true;
        }
        for (Touch p : a.allTouches()) {
            for (Touch q : b.allTouches()) {
                if ((p.writes || q.writes) && p.element.equals(q.element)
                    && Arrays.compare(p.turn, added(q.turn, shift)) > 0) {
                    return false;
                }
            }
        }
        return true;
    }

    private List<Touch> allTouches() {
        List<Touch> all = new ArrayList<>();
        for (int[] turn : turns) {
            all.addAll(touchesOf(turn));
        }
        return all;
    }

    static int[] added(int[] q, int[] shift) {
        int[] sum = new int[q.length];
        for (int v = 0; v < q.length; v++) {
            sum[v] = q[v] + shift[v];
        }
        return sum;
    }

    /** The greatest of what the pairs of touches ask for, or null. */
    static int[] leastShift(Model a, Model b) {
        int[] least = null;
        for (Touch p : a.allTouches()) {
            for (Touch q : b.allTouches()) {
                if ((p.writes || q.writes) && p.element.equals(q.element)) {
                    int[] asked = less(p.turn, q.turn);
                    if (least == null || Arrays.compare(asked, least) > 0) {
                        least = asked;
                    }
                }
            }
        }
        return least;
    }

    /** Touches of both, by places, of one place the first nest's ahead. */
    static List<Touch> fusedTouches(Model a, Model b, int[] shift) {
        List<int[]> keys = new ArrayList<>();
        int d = a.depth;
        for (int t = 0; t < a.turns.size(); t++) {
            int[] key = Arrays.copyOf(a.turns.get(t), d + 2);
            key[d + 1] = t;
            keys.add(key);
        }
        for (int t = 0; t < b.turns.size(); t++) {
            int[] key = Arrays.copyOf(added(b.turns.get(t), shift), d + 2);
            key[d] = 1;
            key[d + 1] = t;
            keys.add(key);
        }
        keys.sort(Arrays::compare);
        List<Touch> all = new ArrayList<>();
        for (int[] key : keys) {
            Model m = key[d] == 0 ? a : b;
            all.addAll(m.touchesOf(m.turns.get(key[d + 1])));
        }
        return all;
    }

    static List<Touch> touchesAsTold(Model a, Model b) {
        List<Touch> all = new ArrayList<>(a.allTouches());
        all.addAll(b.allTouches());
        return all;
    }

    // ---- the cache: WIDTH, L, SETS, WAYS

    static int line(Touch t, int[] cache) {
        int address = 4096 * t.ref.array;
        if (t.ref.subscripts.length == 1) {
            address += sum(t.ref.subscripts[0], t.turn);
        } else {
            address += cache[0] * sum(t.ref.subscripts[0], t.turn) + sum(t.ref.subscripts[1], t.turn);
        }
        return Math.floorDiv(address, cache[1]);
    }

    static int misses(List<Touch> touches, int[] cache) {
        List<List<Integer>> sets = new ArrayList<>();
        for (int s = 0; s < cache[2]; s++) {
            sets.add(new ArrayList<>());
        }
        int missed = 0;
        for (Touch t : touches) {
            Integer line = line(t, cache);
            List<Integer> set = sets.get(Math.floorMod(line, cache[2]));
            if (!set.remove(line)) {
                missed++;
                if (set.size() == cache[3]) {
                    set.remove(0);
                }
            }
            set.add(line);
        }
        return missed;
    }

    List<Touch> touchesInOrder() {
        List<Touch> all = new ArrayList<>();
        for (int[] turn : order()) {
            all.addAll(touchesOf(turn));
        }
        return all;
    }

    List<List<int[]>> tiles() {
        List<List<int[]>> tiles = new ArrayList<>();
        int[] now = null;
        for (int[] turn : order()) {
            int[] start = n == 0 ? new int[0] : Arrays.copyOf(key(turn), f + n);
            if (now == null || !Arrays.equals(now, start)) {
                tiles.add(new ArrayList<>());
                now = start;
            }
            tiles.get(tiles.size() - 1).add(turn);
        }
        return tiles;
    }

    Set<Integer> lines(List<int[]> some, int[] cache) {
        Set<Integer> lines = new HashSet<>();
        for (int[] turn : some) {
            for (Touch t : touchesOf(turn)) {
                lines.add(line(t, cache));
            }
        }
        return lines;
    }

    // ---- made at random, and told

    static int[] randomSum(Random random, int variables, int numbers, int times) {
        int[] sum = new int[4];
        sum[0] = random.nextInt(2 * numbers + 1) - numbers;
        for (int v = 0; v < variables; v++) {
            if (random.nextInt(3) == 0) {
                sum[v + 1] = random.nextInt(2 * times + 1) - times;
            }
        }
        return sum;
    }

    static Model random(Random random, int depth, int length) {
        Model m = new Model(depth);
        for (int v = 0; v < depth; v++) {
            m.first[v] = randomSum(random, v, 4, 2);
            m.last[v] = random.nextInt(3) == 0 ? randomSum(random, v, length, 2) : m.first[v].clone();
            m.last[v][0] += random.nextInt(length) - (random.nextInt(5) == 0 ? 1 : 0);
            m.last[v][0] = Math.max(-99, Math.min(99, m.last[v][0]));
        }
        int statements = 1 + random.nextInt(random.nextInt(4) + 1);
        int arrays = 1 + random.nextInt(4);
        for (int s = 0; s < statements; s++) {
            Statement statement = new Statement();
            statement.write = randomRef(random, depth, arrays);
            int reads = random.nextInt(5);
            for (int r = 0; r < reads; r++) {
                statement.reads.add(randomRef(random, depth, arrays));
            }
            m.statements.add(statement);
        }
        m.findTurns();
        return m;
    }

    private static Ref randomRef(Random random, int depth, int arrays) {
        Ref ref = new Ref();
        ref.array = random.nextInt(arrays);
        ref.subscripts = new int[1 + random.nextInt(2)][];
        for (int s = 0; s < ref.subscripts.length; s++) {
            ref.subscripts[s] = new int[4];
            ref.subscripts[s][1 + random.nextInt(depth)] = random.nextInt(4) == 0 ? random.nextInt(7) - 3 : 1;
            if (random.nextInt(3) == 0) {
                ref.subscripts[s][1 + random.nextInt(depth)] += random.nextInt(3) - 1;
            }
            ref.subscripts[s][0] = random.nextInt(5) - 2;
        }
        return ref;
    }

    private static void blank(StringBuilder text, Random random) {
        int many = random.nextInt(8) == 0 ? 1 + random.nextInt(2) : 0;
        for (int b = 0; b < many; b++) {
            text.append(random.nextInt(3) == 0 ? '\n' : ' ');
        }
    }

    /** A term's sign, then the term; the first one's plus is not told. */
    private static boolean tellTerm(StringBuilder text, boolean any, int times, String name, Random random) {
        if (times == 0) {
            return any;
        }
        blank(text, random);
        if (times < 0) {
            text.append('-');
        } else if (any) {
            text.append('+');
        }
        blank(text, random);
        int number = Math.abs(times);
        if (name.isEmpty()) {
            text.append(number);
        } else if (number == 1 && random.nextInt(4) != 0) {
            text.append(name);
        } else {
            text.append(number);
            blank(text, random);
            text.append('*');
            blank(text, random);
            text.append(name);
        }
        return true;
    }

    private static void tellSum(StringBuilder text, int[] sum, Random random) {
        boolean any = false;
        boolean ahead = random.nextBoolean();
        if (ahead) {
            any = tellTerm(text, any, sum[0], "", random);
        }
        for (int v = 0; v < 3; v++) {
            any = tellTerm(text, any, sum[v + 1], "ijk".substring(v, v + 1), random);
        }
        if (!ahead) {
            any = tellTerm(text, any, sum[0], "", random);
        }
        if (!any) {
            text.append('0');
        }
    }

    private static void tellRef(StringBuilder text, Ref ref, Random random) {
        text.append("abcd".charAt(ref.array));
        for (int[] sum : ref.subscripts) {
            blank(text, random);
            text.append('[');
            tellSum(text, sum, random);
            text.append(']');
        }
        blank(text, random);
    }

    void tell(StringBuilder text, Random random) {
        text.append("nest");
        for (int v = 0; v < depth; v++) {
            text.append(v == 0 ? ' ' : ',');
            blank(text, random);
            text.append("ijk".charAt(v)).append(' ').append("from ");
            tellSum(text, first[v], random);
            text.append(random.nextBoolean() ? " to " : "\nto ");
            tellSum(text, last[v], random);
        }
        text.append(':');
        boolean any = false;
        for (Statement s : statements) {
            text.append(any ? "," : "");
            blank(text, random);
            any = true;
            tellRef(text, s.write, random);
            text.append('=');
            for (Ref r : s.reads) {
                blank(text, random);
                tellRef(text, r, random);
            }
        }
    }
}

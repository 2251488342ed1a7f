import java.util.Arrays;
import java.util.List;
import java.util.Random;
import java.util.Set;
import java.util.TreeMap;
import java.util.TreeSet;

/**
 * Nests made at random: every promise from 3 to 29 against the model that does it plainly.
 * An object is asked more often here than the document promises an answer: the class counts no calls.
 */
public final class OracleTest {
    private static final int NESTED_TEXTS = 700;
    private static final Sheet sheet = new Sheet();

    public static void main(String[] args) {
        for (int seed = 0; seed < NESTED_TEXTS; seed++) {
            go(seed, new Random(seed));
        }
        sheet.end("OracleTest");
    }

    private static void go(int seed, Random random) {
        int nests = 1 + random.nextInt(2);
        int depth = 1 + random.nextInt(3);
        boolean alike = random.nextInt(4) != 0;
        Model[] models = new Model[nests];
        StringBuilder text = new StringBuilder();
        int[] places = new int[nests];
        for (int m = 0; m < nests; m++) {
            int d = m == 0 || alike ? depth : 1 + random.nextInt(3);
            int most = random.nextInt(30) == 0 ? 9 : d == 1 ? 20 : d == 2 ? 6 : 4;
            models[m] = Model.random(random, d, 1 + random.nextInt(most));
            text.append(m == 0 ? "" : ";");
            places[m] = text.length();
            models[m].tell(text, random);
        }
        if (text.length() > 600) {
            return;
        }
        LoopTiler x = seed % 3 == 0 ? new LoopTiler() : usedBefore();
        int before = x.count(0);
        int told = Sheet.tell(x, text.toString());
        for (int m = 0; m < nests; m++) {
            if (models[m].tooLarge) {
                sheet.due(seed + " text " + text, told, -2 - (8 * places[m] + 4));
                sheet.due(seed + " count", x.count(0), before);
                return;
            }
        }
        sheet.due(seed + " text " + text, told, nests);
        int[] cache = {16, 4, 4, 2};
        for (int round = 0; round < 3; round++) {
            for (int m = 0; m < nests; m++) {
                String name = "seed " + seed + " round " + round + " nest " + m + " ";
                if (round > 0) {
                    changeIt(x, models[m], m, random, name);
                }
                ask(x, models[m], m, cache, random, name);
            }
            if (nests == 2 && models[0].turns.size() * models[1].turns.size() < 3000) {
                askBoth(x, models, cache, random, "seed " + seed + " round " + round + " ");
            }
            setCache(x, cache, random);
        }
    }

    /** Rows full of what another, larger text has left. */
    private static LoopTiler usedBefore() {
        LoopTiler x = Sheet.told("nest i from 0 to 19,j from 0 to 19:a[i][j]=a[i-1][j+1]b[j],b[i]=a[0][j];"
            + "nest i from 0 to 7,j from 0 to 7,k from 0 to 6:"
            + "c[i+j+k]=a[i][j]b[k]c[9-i]");
        for (int nest = 0; nest < 2; nest++) {
            x.swap(nest, 0, 1);
            x.tile(nest, 0, 2, 2);
            x.legal(nest);
            x.misses(nest, 3);
            x.tileOf(nest, 5, 0);
            x.direction(nest, 0, 0, 0, 0);
            x.visits(nest, 1);
        }
        x.shift(0);
        x.both(0, 0, 0, 1);
        return x;
    }

    private static void setCache(LoopTiler x, int[] cache, Random random) {
        int[] most = {64, 16, 16, 8};
        int what = random.nextInt(4);
        int v = 1 + random.nextInt(most[what]);
        sheet.due("cache", x.cache(what, v), cache[what]);
        cache[what] = v;
        sheet.due("count", x.count(1 + what), v);
    }

    private static void changeIt(LoopTiler x, Model m, int nest, Random random, String name) {
        for (int c = 0; c < 4; c++) {
            int a = random.nextInt(m.depth);
            int b = random.nextInt(m.depth);
            int f = random.nextInt(4) == 0 ? random.nextInt(19) - 9 : random.nextInt(5) - 2;
            switch (random.nextInt(4)) {
                case 0:
                    sheet.due(name + "swap", x.swap(nest, a, b), a != b);
                    int[] row = m.change[a];
                    m.change[a] = m.change[b];
                    m.change[b] = row;
                    break;
                case 1:
                    sheet.due(name + "turn", x.turn(nest, a), true);
                    for (int v = 0; v < m.depth; v++) {
                        m.change[a][v] = -m.change[a][v];
                    }
                    break;
                case 2:
                    sheet.due(name + "skew", x.skew(nest, a, b, f), skewIt(m, a, b, f));
                    break;
                default:
                    tileIt(x, m, nest, random, name);
            }
        }
        if (random.nextInt(8) == 0) {
            sheet.due(name + "anew", x.anew(nest), true);
            m.anew();
        }
    }

    private static boolean skewIt(Model m, int a, int b, int f) {
        if (a == b || f == 0) {
            return false;
        }
        int[] row = m.change[a].clone();
        for (int v = 0; v < m.depth; v++) {
            row[v] += f * m.change[b][v];
            if (row[v] < -9 || row[v] > 9) {
                return false;
            }
        }
        m.change[a] = row;
        return true;
    }

    private static void tileIt(LoopTiler x, Model m, int nest, Random random, String name) {
        int f = random.nextInt(m.depth);
        int n = random.nextInt(m.depth - f + 1);
        int size = 1 + random.nextInt(random.nextBoolean() ? 3 : 16);
        sheet.due(name + "tile", x.tile(nest, f, n, size), true);
        m.f = n == 0 ? 0 : f;
        m.n = n;
        m.size = n == 0 ? 0 : size;
    }

    private static void ask(LoopTiler x, Model m, int nest, int[] cache, Random random, String name) {
        int[] facts = {m.depth, m.turns.size(), m.statements.size(), m.touchesOfTurn(), m.f, m.n, m.size};
        for (int what = 0; what < 7; what++) {
            sheet.due(name + "nest " + what, x.nest(nest, what), facts[what]);
        }
        List<Model.Pair> pairs = m.pairs();
        askPairs(x, m, pairs, nest, name);
        askDirections(x, m, pairs, nest, name);
        askOrder(x, m, pairs, nest, name);
        askBack(x, m, nest, name);
        askSpans(x, m, nest, random, name);
        askCache(x, m, nest, cache, random, name);
    }

    private static void askPairs(LoopTiler x, Model m, List<Model.Pair> pairs, int nest, String name) {
        int[] kinds = new int[4];
        TreeMap<int[], Integer> distances = new TreeMap<>(Arrays::compare);
        for (Model.Pair pair : pairs) {
            kinds[pair.kind]++;
            kinds[3]++;
            distances.merge(Model.less(pair.q, pair.p), 1, Integer::sum);
        }
        for (int kind = 0; kind < 4; kind++) {
            sheet.due(name + "pairs " + kind, x.pairs(nest, kind), kinds[kind]);
        }
        sheet.due(name + "distances", x.distance(nest, -1, 2), distances.size());
        int i = 0;
        for (int[] distance : distances.keySet()) {
            for (int what = 0; what < 3; what++) {
                sheet.due(name + "distance " + i, x.distance(nest, i, what), what < m.depth ? distance[what] : 0);
            }
            sheet.due(name + "distance " + i, x.distance(nest, i, 3), distances.get(distance));
            i++;
        }
        sheet.due(name + "distance behind", x.distance(nest, i, 3), LoopTiler.NOWHERE);
    }

    private static void askDirections(LoopTiler x, Model m, List<Model.Pair> pairs, int nest, String name) {
        Set<Integer> all = new TreeSet<>();
        int[] counts = new int[27];
        for (Model.Pair pair : pairs) {
            int[] d = Arrays.copyOf(Model.less(pair.q, pair.p), 3);
            int code = 9 * Integer.signum(d[0]) + 3 * Integer.signum(d[1]) + Integer.signum(d[2]) + 13;
            all.add(code);
            counts[code]++;
        }
        sheet.due(name + "directions", x.direction(nest, 0, 0, 0, 0), all.size());
        for (int code = 0; code < 27; code++) {
            int a = code / 9 - 1;
            int b = code / 3 % 3 - 1;
            int c = code % 3 - 1;
            int same = 9 * (a + 1) + 3 * (m.depth > 1 ? b + 1 : 1) + (m.depth > 2 ? c + 1 : 1);
            sheet.due(name + "direction " + a + b + c, x.direction(nest, a, b, c, 1), counts[same]);
        }
    }

    private static void askOrder(LoopTiler x, Model m, List<Model.Pair> pairs, int nest, String name) {
        int[] carried = new int[m.depth + m.n];
        int broken = 0;
        int[] least = null;
        for (Model.Pair pair : pairs) {
            int[] p = m.key(pair.p);
            int[] q = m.key(pair.q);
            carried[Arrays.mismatch(p, q)]++;
            if (Arrays.compare(p, q) >= 0) {
                broken++;
                int[] d = Arrays.copyOf(Model.less(pair.q, pair.p), 3);
                least = least == null || Arrays.compare(d, least) < 0 ? d : least;
            }
        }
        sheet.due(name + "legal", x.legal(nest), broken == 0 ? 1 : 0);
        sheet.due(name + "broken", x.broken(nest, 0), broken);
        for (int v = 0; v < 3; v++) {
            sheet.due(name + "broken " + v, x.broken(nest, v + 1), least == null ? LoopTiler.NOWHERE : least[v]);
        }
        for (int place = 0; place < carried.length; place++) {
            sheet.due(name + "carried " + place, x.carried(nest, place), carried[place]);
        }
        sheet.due(name + "carried behind", x.carried(nest, carried.length), -1);
        for (int level = 0; level < m.depth; level++) {
            sheet.due(name + "band " + level, x.band(nest, level), m.band(pairs, level));
        }
        List<int[]> order = m.order();
        for (int i = 0; i < order.size(); i++) {
            int[] turn = Arrays.copyOf(order.get(i), 3);
            for (int v = 0; v < m.depth; v++) {
                sheet.due(name + "at " + i, x.at(nest, i, v), turn[v]);
            }
            sheet.due(name + "place " + i, x.place(nest, turn[0], turn[1], turn[2]), i);
        }
    }

    private static void askBack(LoopTiler x, Model m, int nest, String name) {
        for (int a = 0; a < m.depth; a++) {
            for (int b = 0; b < m.depth; b++) {
                sheet.due(name + "change", x.change(nest, a, b, false), m.change[a][b]);
                int product = 0;
                for (int c = 0; c < m.depth; c++) {
                    product += x.change(nest, a, c, true) * m.change[c][b];
                }
                sheet.due(name + "change back", product, a == b ? 1 : 0);
            }
        }
    }

    private static void askSpans(LoopTiler x, Model m, int nest, Random random, String name) {
        for (int level = 0; level < m.depth; level++) {
            long wanted = m.depth == 3 && m.turns.size() > 60 && level > 0 ? -1 : m.visits(level, new long[0]);
            if (wanted >= 0) {
                sheet.due(name + "visits " + level, x.visits(nest, level), wanted);
            }
            for (int c = 0; c < 12; c++) {
                long[] ahead = new long[level];
                int[] near = m.turns.isEmpty() ? new int[3] : m.y(m.turns.get(random.nextInt(m.turns.size())));
                for (int l = 0; l < level; l++) {
                    ahead[l] = near[l] + (random.nextInt(3) == 0 ? random.nextInt(5) - 2 : 0);
                }
                long[] span = m.span(level, ahead);
                int y0 = level > 0 ? (int) ahead[0] : 5000000;
                int y1 = level > 1 ? (int) ahead[1] : 5000000;
                for (int what = 0; what < 2; what++) {
                    sheet.due(name + "span " + level + " " + y0 + " " + y1, x.span(nest, level, y0, y1, what),
                        span == null ? LoopTiler.NOWHERE : span[what]);
                }
            }
        }
    }

    private static void askCache(LoopTiler x, Model m, int nest, int[] cache, Random random, String name) {
        List<List<int[]>> tiles = m.tiles();
        int reckoned = 0;
        int greatest = 0;
        Set<Integer> ahead = Set.of();
        for (int t = 0; t < tiles.size(); t++) {
            Set<Integer> lines = m.lines(tiles.get(t), cache);
            int again = 0;
            for (int line : lines) {
                again += ahead.contains(line) ? 1 : 0;
            }
            sheet.due(name + "tileOf 0 " + t, x.tileOf(nest, t, 0), lines.size());
            sheet.due(name + "tileOf 1 " + t, x.tileOf(nest, t, 1), tiles.get(t).size());
            sheet.due(name + "tileOf 2 " + t, x.tileOf(nest, t, 2), again);
            reckoned += lines.size() - again;
            greatest = Math.max(greatest, lines.size());
            ahead = lines;
        }
        sheet.due(name + "tileOf behind", x.tileOf(nest, tiles.size(), 0), -1);
        int[] wanted = {Model.misses(m.touchesInOrder(), cache), m.lines(m.turns, cache).size(),
            m.turns.size() * m.touchesOfTurn(), reckoned, tiles.size(), greatest};
        for (int what = 0; what < 6; what++) {
            sheet.due(name + "misses " + what, x.misses(nest, what), wanted[what]);
        }
        int f = random.nextInt(m.depth);
        askBest(x, m, nest, f, 1 + random.nextInt(m.depth - f), cache, name);
    }

    private static void askBest(LoopTiler x, Model m, int nest, int f, int n, int[] cache, String name) {
        int[] old = {m.f, m.n, m.size};
        int best = 0;
        int fewest = Integer.MAX_VALUE;
        m.f = f;
        m.n = n;
        for (int size = 1; size <= 16; size++) {
            m.size = size;
            int missed = Model.misses(m.touchesInOrder(), cache);
            if (missed < fewest) {
                fewest = missed;
                best = size;
            }
        }
        m.f = old[0];
        m.n = old[1];
        m.size = old[2];
        sheet.due(name + "best 0", x.best(nest, f, n, 0), best);
        sheet.due(name + "best 1", x.best(nest, f, n, 1), fewest);
        sheet.due(name + "nest 6 behind best", x.nest(nest, 6), m.size);
    }

    private static void askBoth(LoopTiler x, Model[] m, int[] cache, Random random, String name) {
        if (m[0].depth != m[1].depth) {
            sheet.due(name + "shift", x.shift(0), LoopTiler.NOWHERE);
            sheet.due(name + "fused", x.fused(0, 0, 0), -1);
            sheet.due(name + "both", x.both(0, 0, 0, 0), -1);
            return;
        }
        int depth = m[0].depth;
        int[] least = Model.leastShift(m[0], m[1]);
        for (int v = 0; v < 3; v++) {
            int number = v >= depth ? LoopTiler.NOWHERE : least == null ? 0 : least[v];
            sheet.due(name + "shift " + v, x.shift(v), number);
        }
        sheet.due(name + "both as told", x.both(0, 0, 0, 1), Model.misses(Model.touchesAsTold(m[0], m[1]), cache));
        for (int c = 0; c < 4; c++) {
            int[] shift = {500, 500, 500};
            for (int v = 0; v < depth; v++) {
                int near = least == null ? 0 : least[v];
                shift[v] = Math.max(-99, Math.min(99, near + (random.nextBoolean() ? 0 : random.nextInt(3) - 1)));
            }
            boolean legal = Model.isFusedLegally(m[0], m[1], shift);
            sheet.due(name + "fused", x.fused(shift[0], shift[1], shift[2]), legal ? 1 : 0);
            sheet.due(name + "both", x.both(shift[0], shift[1], shift[2], 0),
                Model.misses(Model.fusedTouches(m[0], m[1], shift), cache));
        }
    }
}

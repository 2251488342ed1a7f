import java.lang.management.ManagementFactory;
import java.util.NoSuchElementException;
import java.util.Random;

/**
 * Any arguments in any state: nothing but what the document names is thrown, every call ends,
 * nests of the greatest size fit, and calls make no rows.
 */
public final class SturdyTest {
    private static final Sheet sheet = new Sheet();
    private static final int[] ODD = {0, 1, 2, 3, -1, -2, 4, 5, 16, 17, 99, 100, -99, -100, 500, 1000000, -1000000,
        1000001, Integer.MAX_VALUE, Integer.MIN_VALUE};
    private static final String[] WORDS = {"nest ", "i", "j", "k", " from ", " to ", "0", "1", "9", "12", "=", "+", "-",
        "*", "[", "]", ",", ";", ":", "a", "b", "c[i]", " ", "\n", "@", "x"};
    private static final String LARGE = "nest i from 0 to 99,j from 0 to 4:"
        + "a[i][j]=b[j]b[j]b[j]b[j],b[i]=a[j][i]a[j][i]a[j][i]a[j][i],"
        + "c[i]=b[i]a[j][j]c[j]c[99-i],b[j]=b[i]b[99-i]b[4-j]c[j]";

    public static void main(String[] args) {
        for (int seed = 0; seed < 400; seed++) {
            anyCalls(new Random(seed));
        }
        greatestNest();
        farSkewed();
        room();
        sheet.end("SturdyTest");
    }

    private static int odd(Random random) {
        return random.nextInt(3) == 0 ? ODD[random.nextInt(ODD.length)] : random.nextInt(3);
    }

    private static void anyCalls(Random random) {
        LoopTiler x = new LoopTiler();
        for (int call = 0; call < 512; call++) {
            if (call % 64 == 0) {
                tellSome(x, random);
            }
            anyCall(x, random.nextInt(29), random);
        }
    }

    private static void tellSome(LoopTiler x, Random random) {
        StringBuilder text = new StringBuilder();
        Model.random(random, 1 + random.nextInt(3), 1 + random.nextInt(5)).tell(text, random);
        if (random.nextBoolean()) {
            text.append(';');
            Model.random(random, 1 + random.nextInt(3), 1 + random.nextInt(5)).tell(text, random);
        }
        for (int c = random.nextInt(4); c > 1; c--) {
            text.insert(random.nextInt(text.length()), WORDS[random.nextInt(WORDS.length)]);
        }
        x.text(x.count(5));
        Sheet.tell(x, text.toString());
    }

    private static void anyCall(LoopTiler x, int which, Random random) {
        int a = odd(random);
        int b = odd(random);
        int c = odd(random);
        int d = odd(random);
        int e = odd(random);
        switch (which) {
            case 0: x.feed(a, b, random.nextInt(), d, e); break;
            case 1: x.text(b == 0 ? x.count(5) : a < 0 ? a : 999); break;
            case 2: x.nest(a, b); break;
            case 3: x.pairs(a, b); break;
            case 4: x.distance(a, b, c); break;
            case 5: x.direction(a, b, c, d, e); break;
            case 6: x.swap(a, b, c); break;
            case 7: x.turn(a, b); break;
            case 8: x.skew(a, b, c, d); break;
            case 9: x.tile(a, b, c, d); break;
            case 10: x.anew(a); break;
            case 11: x.change(a, b, c, d > 0); break;
            case 12: x.legal(a); break;
            case 13: x.broken(a, b); break;
            case 14: x.carried(a, b); break;
            case 15: x.band(a, b); break;
            case 16: x.span(a, b, c, d, e); break;
            case 17: x.visits(a, b); break;
            case 18: anyAt(x, a, b, c); break;
            case 19: x.place(a, b, c, d); break;
            case 20: x.shift(a); break;
            case 21: x.fused(a, b, c); break;
            case 22: x.both(a, b, c, d); break;
            case 23: x.cache(a, b); break;
            case 24: x.misses(a, b); break;
            case 25: x.tileOf(a, b, c); break;
            case 26: x.best(a, b, c, d); break;
            default: x.count(a);
        }
    }

    private static void anyAt(LoopTiler x, int a, int b, int c) {
        try {
            x.at(a, b, c);
        } catch (NoSuchElementException e) {
            sheet.due("at throws where no turn is", b >= 0 && b < x.nest(a, 1) && c >= 0 && c < x.nest(a, 0), false);
        }
    }

    private static void greatestNest() {
        LoopTiler x = Sheet.told(LARGE + ";" + LARGE);
        sheet.due("turns", x.nest(0, 1), 500);
        sheet.due("touches", x.misses(1, 2), 10000);
        int pairs = x.pairs(0, 3);
        sheet.due("kinds together", x.pairs(0, 0) + x.pairs(0, 1) + x.pairs(0, 2), pairs);
        int together = 0;
        int distances = x.distance(0, -1, 0);
        for (int i = 0; i < distances; i++) {
            together += x.distance(0, i, 3);
        }
        sheet.due("distances together", together, pairs);
        x.tile(0, 0, 2, 3);
        int carried = 0;
        for (int place = 0; place < 4; place++) {
            carried += x.carried(0, place);
        }
        sheet.due("carried together", carried, pairs);
        int turns = 0;
        for (int i = 0; i < x.misses(0, 4); i++) {
            turns += x.tileOf(0, i, 1);
        }
        sheet.due("tiles together", turns, 500);
        sheet.due("fused at its least shift", x.fused(x.shift(0), x.shift(1), 0), 1);
        x = Sheet.told("nest i from 0 to 99+99+99+99,j from 1 to 1:a[i]=b[0]b[0]b[0]b[0],b[9*i-i]=c[0]c[0]c[0]c[0],"
            + "c[i]=d[0]d[0]d[0]d[0],d[i]=a[0]a[0]a[0]a[0]");
        sheet.due("many reads of one write", x.pairs(0, 0), 396 * 16);
    }

    /** The furthest change of the furthest values, there and back. */
    private static void farSkewed() {
        LoopTiler x = Sheet.told("nest i from 99+99+99+99 to 99+99+99+99,j from 2*i+99+99 to 2*i+99+99,"
            + "k from j-9 to j:a[i]=a[9*i+9*j+9*k+9*k][9*k+9*k+9*k+9*k]");
        sheet.due("turns", x.nest(0, 1), 10);
        x.skew(0, 0, 1, 9);
        x.skew(0, 0, 2, 9);
        x.skew(0, 1, 2, 9);
        for (int size = 1; size <= 16; size++) {
            sheet.due("tile", x.tile(0, 0, 3, size), true);
            for (int i = 0; i < 10; i++) {
                sheet.due("far order", x.at(0, i, 2), 981 + i);
            }
        }
        x.turn(0, 0);
        x.turn(0, 2);
        sheet.due("far order back", x.at(0, 0, 2), 990);
        sheet.due("far span", x.span(0, 0, 0, 0, 0), -396 - 9 * 990 - 9 * 990);
        sheet.due("far span", x.span(0, 0, 0, 0, 1), -396 - 9 * 990 - 9 * 981);
        // of each whole Y0 there is a whole Y1, though k is whole of every ninth alone
        sheet.due("far visits", x.visits(0, 1), 82);
        sheet.due("far visits", x.visits(0, 2), 10);
        x.cache(0, 64);
        sheet.due("far lines", x.misses(0, 1), 11);
    }

    /** What calls make is counted for a whole run, so rows must be made once and used again. */
    private static void room() {
        if (!(ManagementFactory.getThreadMXBean() instanceof com.sun.management.ThreadMXBean bean)) {
            return;
        }
        long id = Thread.currentThread().getId();
        long before = bean.getThreadAllocatedBytes(id);
        LoopTiler x = new LoopTiler();
        long made = bean.getThreadAllocatedBytes(id) - before;
        sheet.due("an object is under a megabyte and a half", made < 1500000, true);
        Sheet.tell(x, LARGE + ";" + LARGE);
        before = bean.getThreadAllocatedBytes(id);
        for (int call = 0; call < 40; call++) {
            x.skew(0, 0, 1, call % 2 == 0 ? 1 : -1);
            x.cache(0, 1 + call);
            x.distance(0, 0, 0);
            x.legal(0);
            x.visits(0, 0);
            x.best(0, 0, 2, 0);
            x.tileOf(0, 1, 0);
            x.both(1, 1, 1, 0);
        }
        sheet.due("calls make next to nothing", bean.getThreadAllocatedBytes(id) - before < 20000, true);
    }
}

import java.util.function.Supplier;

/** Boundary cases of promises 22 to 29 and of the third part of 'Terms', sentence by sentence. */
public final class CacheBoundsTest {
    private static final int NONE = -1;
    private static final int NOWHERE = -1000000;
    private static final int LOW = Integer.MIN_VALUE;
    private static final int HIGH = Integer.MAX_VALUE;
    private static final Sheet sheet = new Sheet();

    private static final String[] DEEP = {
        "nest i from 0 to 3:a[i]=a[i-1]",
        "nest i from 0 to 3,j from 0 to 2:a[i][j]=a[i-1][j]a[i][j-1]",
        "nest i from 0 to 1,j from 0 to 2,k from 0 to 2:a[9*i+3*j+k]=a[9*i+3*j+k-1]a[9*i+3*j+k-9]",
    };
    private static final String[] EMPTY = {
        "nest i from 1 to 0:a[0]=a[0]",
        "nest i from 0 to 3,j from i+1 to i:a[0]=a[0]",
        "nest i from 0 to 3,j from 0 to 3,k from 1 to 0:a[0]=a[0]",
    };

    public static void main(String[] args) {
        notTwoOfOneDepth();
        shiftAsked();
        shiftOfTouches();
        shiftFar();
        shiftOfMostTouches();
        shiftOfAnotherText();
        fused();
        fusedAtItsLeast();
        bothRefused();
        bothInOrder();
        cacheTold();
        addresses();
        linesAndSets();
        ways();
        misses();
        tilesOfANest();
        tileOf();
        best();
        bestRefused();
        count();
        sheet.end("CacheBoundsTest");
    }

    private static void due(String call, long got, long want) {
        sheet.due(call, got, want);
    }

    private static void due(String call, boolean got, boolean want) {
        sheet.due(call, got, want);
    }

    /** A nest with a change and a tile and a cache of its own, that a refused call must leave. */
    private static Supplier<LoopTiler> changed(int depth) {
        return () -> {
            LoopTiler x = Sheet.told(DEEP[depth - 1] + ";" + DEEP[depth - 1]);
            x.turn(0, depth - 1);
            x.tile(0, depth - 1, 1, 2);
            x.tile(1, 0, depth, 3);
            x.cache(0, 5);
            x.cache(3, 1);
            return x;
        };
    }

    // ---- two nests

    private static void notTwoOfOneDepth() {
        for (int d = 0; d < 9; d++) {
            LoopTiler x = Sheet.told(DEEP[d / 3] + ";" + DEEP[d % 3]);
            boolean alike = d / 3 == d % 3;
            due("T3: of one D", x.shift(0) != NOWHERE, alike);
            due("T3: of one D", x.fused(0, 0, 0) != NONE, alike);
            due("T3: of one D", x.both(0, 0, 0, 0) != NONE, alike);
        }
        for (int d = 0; d < 3; d++) {
            for (int which = 0; which < 3; which++) {
                due("P22: one nest", Sheet.told(DEEP[d]).shift(which), NOWHERE);
                due("P22: no nest", new LoopTiler().shift(which), NOWHERE);
            }
            due("P23: one nest", Sheet.told(DEEP[d]).fused(0, 0, 0), NONE);
            due("P24: one nest", Sheet.told(DEEP[d]).both(0, 0, 0, 0), NONE);
            due("P24: one nest", Sheet.told(DEEP[d]).both(0, 0, 0, 1), NONE);
        }
        due("P23: no nest", new LoopTiler().fused(0, 0, 0), NONE);
        due("P24: no nest", new LoopTiler().both(0, 0, 0, 0), NONE);
    }

    private static void shiftAsked() {
        for (int depth = 1; depth <= 3; depth++) {
            LoopTiler x = changed(depth).get();
            for (int which = 0; which < depth; which++) {
                due("P22: a number of the shift", x.shift(which) != NOWHERE, true);
            }
            for (int which : new int[] {-1, depth, 3, LOW, HIGH}) {
                due("P22: which " + which + ", behind D", x.shift(which), NOWHERE);
            }
        }
    }

    /** The first nest's turn is 5, the second one's 0. */
    private static int shiftOf(String first, String second) {
        return Sheet.told("nest i from 5 to 5:" + first + ";nest i from 0 to 0:" + second).shift(0);
    }

    private static void shiftOfTouches() {
        due("T3: written, then read", shiftOf("a[0]=", "b[0]=a[0]"), 5);
        due("T3: read, then written", shiftOf("b[0]=a[0]", "a[0]="), 5);
        due("T3: both write", shiftOf("a[0]=", "a[0]="), 5);
        due("T3: all 0: neither writes", shiftOf("b[0]=a[0]", "c[0]=a[0]"), 0);
        due("T3: all 0: unlike arrays", shiftOf("a[0]=", "b[0]=c[0]"), 0);
        due("T3: all 0: unlike elements", shiftOf("a[0]=", "a[1]="), 0);
        due("T3: all 0: of one subscript and of two", shiftOf("a[0]=", "b[0]=a[0][0]"), 0);
        due("T3: of two subscripts", shiftOf("a[0][1]=", "b[0]=a[0][1]"), 5);
        due("T3: of two subscripts, the other way round", shiftOf("a[0][1]=", "b[0]=a[1][0]"), 0);
        due("T3: all 0: touches of one nest alone", shiftOf("a[0]=a[0]", "b[0]=b[0]"), 0);
        due("T3: all 0: the first has no turns", Sheet.told("nest i from 6 to 5:a[0]=;nest i from 0 to 0:a[0]=").shift(0), 0);
        due("T3: all 0: the second has no turns", Sheet.told("nest i from 5 to 5:a[0]=;nest i from 1 to 0:a[0]=").shift(0), 0);
        due("T3: below 0", Sheet.told("nest i from 0 to 0:a[0]=;nest i from 5 to 5:a[0]=").shift(0), -5);
        LoopTiler x = Sheet.told("nest i from 0 to 9:a[0]=;nest i from 0 to 9:b[i]=a[0]");
        due("T3: the last that writes, the first that reads", x.shift(0), 9);
        x = Sheet.told("nest i from 0 to 9:a[i]=b[0];nest i from 0 to 9:b[0]=a[i]");
        due("T3: the last that reads, the first that writes", x.shift(0), 9);
        x = Sheet.told("nest i from 0 to 9:a[i]=;nest i from 0 to 9:b[i]=a[i+2]a[i-2]a[i]");
        due("T3: the one that needs most", x.shift(0), 2);
        x = Sheet.told("nest i from 0 to 0,j from 0 to 0,k from 7 to 7:a[0]=;nest i from 0 to 0,j from 0 to 0,k from 2 to 2:a[0]=");
        due("T3: the third number", x.shift(2), 5);
        due("T3: the third number", x.shift(0), 0);
    }

    private static void shiftFar() {
        String high = "nest i from 99+12 to 99+12,j from 9*i to 9*i:a[0]=";
        String low = "nest i from -99-12 to -99-12,j from 9*i to 9*i:a[0]=";
        LoopTiler x = Sheet.told(high + ";" + low);
        due("P22: from -999 to 999", x.shift(0), 222);
        due("P22: from -999 to 999", x.shift(1), 1998);
        due("P23: 99 is not enough", x.fused(99, 99, 0), 0);
        x = Sheet.told(low + ";" + high);
        due("P22: from 999 to -999", x.shift(0), -222);
        due("P22: from 999 to -999", x.shift(1), -1998);
        due("P23: -99 is more than enough", x.fused(-99, -99, 0), 1);
    }

    /** 500 turns of 20 touches each; but the last of a turn none binds the nests. */
    private static void shiftOfMostTouches() {
        String reads = "b[0]b[0]b[0]b[0]";
        String most = "nest i from 1 to 5,j from 1 to 10,k from 1 to 10:A[0]=#,A[0]=#,A[0]=#,d[0]=#";
        LoopTiler x = Sheet.told(most.replace("#", reads).replace('A', 'a') + ";" + most.replace("#", reads).replace('A', 'c'));
        int[] due = {4, 9, 9};
        for (int which = 0; which < 3; which++) {
            due("P22: the most touches", x.shift(which), due[which]);
        }
        due("P23: the most touches", x.fused(4, 9, 9), 1);
        due("P23: the most touches", x.fused(4, 9, 8), 0);
        // 4 lines of a set each: a or c, b, d
        x.cache(3, 4);
        due("P24: the most touches", x.both(0, 0, 0, 0), 4);
        due("P24: the most touches", x.both(0, 0, 0, 1), 4);
        due("P26: the most touches", x.misses(1, 2), 10000);
    }

    private static void shiftOfAnotherText() {
        LoopTiler x = Sheet.told("nest i from 0 to 3:a[0]=;nest i from 0 to 3:a[0]=");
        due("P22: of a text of more turns", x.shift(0), 3);
        Sheet.tell(x, "nest i from 5 to 5:a[0]=;nest i from 0 to 0:a[0]=");
        due("P22: of a text", x.shift(0), 5);
        Sheet.tell(x, "nest i from 0 to 0:a[0]=;nest i from 7 to 7:a[0]=");
        due("P22: of another text", x.shift(0), -7);
        Sheet.tell(x, "nest i from 5 to 5:a[0]=;nest i from 0 to 0:b[0]=");
        due("P22: all 0, where they were not", x.shift(0), 0);
        due("P23: any is legal, where it was not", x.fused(-99, 0, 0), 1);
        Sheet.tell(x, "nest i from 5 to 5:b[0]=;nest i from 0 to 0:a[0]=");
        due("P22: a touch that the old text had is none", x.shift(0), 0);
    }

    private static void fused() {
        for (int depth = 1; depth <= 3; depth++) {
            Supplier<LoopTiler> made = changed(depth);
            for (int far : new int[] {-100, 100, 1000, LOW, HIGH}) {
                sheet.refused("P23: i " + far, made, x -> x.fused(far, 0, 0), NONE);
                due("P23: j " + far, made.get().fused(1, far, 0), depth > 1 ? NONE : 1);
                due("P23: k " + far, made.get().fused(1, 0, far), depth > 2 ? NONE : 1);
            }
            due("P23: 99", made.get().fused(99, 99, 99), 1);
            due("P23: -99", made.get().fused(-99, -99, -99), 0);
        }
        LoopTiler x = Sheet.told("nest i from 99+1 to 99+1:a[0]=;nest i from 0 to 0:a[0]=");
        due("P22: the least shift may be beyond 99", x.shift(0), 100);
        due("P23: 99 is not legal", x.fused(99, 0, 0), 0);
        due("P23: 100 would be, but is beyond", x.fused(100, 0, 0), NONE);
        x = Sheet.told("nest i from 0 to 0:a[0]=;nest i from 99+1 to 99+1:a[0]=");
        due("P23: -99 is legal", x.fused(-99, 0, 0), 1);
        due("P23: -100 is, too, but is beyond", x.fused(-100, 0, 0), NONE);
        x = Sheet.told("nest i from 0 to 3:a[i]=;nest i from 0 to 3:b[i]=");
        due("P23: no two touches: any is legal", x.fused(-99, 0, 0), 1);
        x = Sheet.told(EMPTY[1] + ";" + EMPTY[1]);
        due("P23: no turns: any is legal", x.fused(-99, -99, 0), 1);
    }

    private static void fusedAtItsLeast() {
        LoopTiler x = Sheet.told("nest i from 5 to 5:a[0]=;nest i from 0 to 0:a[0]=");
        due("T3: of one place the first nest's is ahead", x.fused(5, 0, 0), 1);
        due("T3: one less", x.fused(4, 0, 0), 0);
        // a[0] is written at 0 7, a[1] at 1 -5; both are read at 0 0
        x = Sheet.told("nest i from 0 to 1,j from 7-9*i-3*i to 7-9*i-3*i:a[i]=;nest i from 0 to 0,j from 0 to 0:b[0]=a[0]a[1]");
        due("T3: the least by its first number", x.shift(0), 1);
        due("T3: then by its second", x.shift(1), -5);
        due("T3: legal", x.fused(1, -5, 0), 1);
        due("T3: one less", x.fused(1, -6, 0), 0);
        due("T3: the first number counts first", x.fused(0, 99, 0), 0);
        due("T3: the first number counts first", x.fused(2, -99, 0), 1);
        LoopTiler y = Sheet.told("nest i from 0 to 1,j from 7-9*i-3*i to 7-9*i-3*i:a[1-i]=;nest i from 0 to 0,j from 0 to 0:b[0]=a[0]a[1]");
        due("T3: the elements the other way round", y.shift(0), 1);
        due("T3: the elements the other way round", y.shift(1), -5);
        x.swap(0, 0, 1);
        x.turn(1, 0);
        x.tile(0, 0, 2, 4);
        due("T3: changes, tiles are of no matter", x.shift(1), -5);
        due("T3: changes, tiles are of no matter", x.fused(1, -6, 0), 0);
    }

    private static void bothRefused() {
        for (int depth = 1; depth <= 3; depth++) {
            Supplier<LoopTiler> made = changed(depth);
            int fine = made.get().both(1, 0, 0, 0);
            for (int far : new int[] {-100, 100, 1000, LOW, HIGH}) {
                sheet.refused("P24: i " + far, made, x -> x.both(far, 0, 0, 0), NONE);
                due("P24: j " + far, made.get().both(1, far, 0, 0), depth > 1 ? NONE : fine);
                due("P24: k " + far, made.get().both(1, 0, far, 0), depth > 2 ? NONE : fine);
            }
            for (int what : new int[] {-1, 2, LOW, HIGH}) {
                sheet.refused("P24: what " + what, made, x -> x.both(0, 0, 0, what), NONE);
            }
            // so far apart, they are as one behind the other
            due("P24: 99", made.get().both(99, 99, 99, 0), made.get().both(0, 0, 0, 1));
            due("P24: -99", made.get().both(-99, -99, -99, 0) > 0, true);
        }
    }

    /** A cache of one address: each touch of another one than that ahead of it is a miss. */
    private static LoopTiler ofOneAddress(String text) {
        LoopTiler x = Sheet.told(text);
        x.cache(1, 1);
        x.cache(2, 1);
        x.cache(3, 1);
        return x;
    }

    private static void bothInOrder() {
        LoopTiler x = ofOneAddress("nest i from 0 to 1:a[0]=;nest i from 0 to 1:b[0]=");
        due("T3: of one place the first nest's ahead: a b a b", x.both(0, 0, 0, 0), 4);
        due("T3: a, a b, b", x.both(1, 0, 0, 0), 2);
        due("T3: b, a b, a", x.both(-1, 0, 0, 0), 4);
        due("T3: b, b, a, a", x.both(-2, 0, 0, 0), 2);
        due("P24: one behind the other: a a b b", x.both(0, 0, 0, 1), 2);
        due("T3: it is empty at first, each time", x.both(0, 0, 0, 1), 2);
        x.turn(0, 0);
        x.turn(1, 0);
        x.tile(0, 0, 1, 2);
        due("T3: changes, tiles are of no matter", x.both(-1, 0, 0, 0), 4);
        x = ofOneAddress("nest i from 0 to 1:a[0]=;nest i from 0 to 1:b[i]=");
        due("T3: b0, b1, a, a", x.both(-2, 0, 0, 0), 3);
        due("T3: a, a, b0, b1", x.both(2, 0, 0, 0), 3);
        String plane = "nest i from 0 to 0,j from 0 to 0,k from 0 to 1:";
        x = ofOneAddress(plane + "a[0]=;" + plane + "b[0]=");
        due("T3: a b a b", x.both(0, 0, 0, 0), 4);
        due("T3: by the third number: a, a b, b", x.both(0, 0, 1, 0), 2);
        due("T3: by the third number: b, a b, a", x.both(0, 0, -1, 0), 4);
        due("T3: by the second number first: a, a, b, b", x.both(0, 1, -1, 0), 2);
        due("T3: by the second number first: b, b, a, a", x.both(0, -1, 1, 0), 2);
        due("T3: by the first number first: a, a, b, b", x.both(1, -99, -1, 0), 2);
        x = ofOneAddress("nest i from 0 to 0,j from 0 to 1:a[j]=;nest i from 0 to 0,j from 0 to 1:a[1-j]=");
        due("P24: a0, a1 a1, a0", x.both(0, 1, 0, 0), 3);
        due("P24: as told: a0 a1 a1 a0", x.both(0, 0, 0, 1), 3);
        x.turn(0, 1);
        due("P24: as told, whatever the change: a0 a1 a1 a0", x.both(0, 0, 0, 1), 3);
        x.turn(0, 1);
        x.turn(1, 1);
        due("P24: as told, whatever the change: a0 a1 a1 a0", x.both(0, 0, 0, 1), 3);
        x = ofOneAddress("nest i from 1 to 0:a[i]=;nest i from 0 to 2:a[i]=");
        due("P24: the first has no turns", x.both(0, 0, 0, 0), 3);
        due("P24: the first has no turns", x.both(0, 0, 0, 1), 3);
        x = ofOneAddress("nest i from 0 to 2:a[i]=;nest i from 1 to 0:a[i]=");
        due("P24: the second has no turns", x.both(0, 0, 0, 0), 3);
        due("P24: the second has no turns", x.both(0, 0, 0, 1), 3);
        x = ofOneAddress(EMPTY[2] + ";" + EMPTY[2]);
        due("P24: neither has", x.both(0, 0, 0, 0), 0);
        due("P24: neither has", x.both(0, 0, 0, 1), 0);
    }

    // ---- the cache

    private static void cacheTold() {
        int[] first = {16, 4, 4, 2};
        int[] most = {64, 16, 16, 8};
        for (int what = 0; what < 4; what++) {
            int w = what;
            due("P25: told as it is, what " + what, new LoopTiler().cache(w, first[w]), first[w]);
            for (int v : new int[] {0, -1, most[what] + 1, LOW, HIGH}) {
                sheet.refused("P25: what " + what + ", v " + v, LoopTiler::new, x -> x.cache(w, v), NONE);
                sheet.refused("P25: what " + what + ", v " + v, changed(2), x -> x.cache(w, v), NONE);
            }
            LoopTiler x = new LoopTiler();
            due("P25: 1, what " + what, x.cache(what, 1), first[what]);
            due("P25: the most, what " + what, x.cache(what, most[what]), 1);
            due("P25: it is told, what " + what, x.count(1 + what), most[what]);
            for (int other = 0; other < 4; other++) {
                due("P25: others stay", x.count(1 + other), other == what ? most[what] : first[other]);
            }
        }
        for (int what : new int[] {-1, 4, 5, LOW, HIGH}) {
            sheet.refused("P25: what " + what, changed(1), x -> x.cache(what, 1), NONE);
        }
    }

    private static int cold(String text, int width, int length) {
        LoopTiler x = Sheet.told(text);
        x.cache(0, width);
        x.cache(1, length);
        return x.misses(0, 1);
    }

    private static void addresses() {
        String rows = "nest i from 0 to 0:a[1][0]=a[0]";
        due("T3: WIDTH 64", cold(rows + "[64]", 64, 1), 1);
        due("T3: WIDTH 63", cold(rows + "[64]", 63, 1), 2);
        due("T3: WIDTH 1", cold(rows + "[1]", 1, 1), 1);
        due("T3: WIDTH 2", cold(rows + "[1]", 2, 1), 2);
        due("T3: of one subscript: that", cold(rows.replace("a[0]", "a[16]"), 16, 1), 1);
        due("T3: of one subscript: that", cold("nest i from 0 to 0:a[1]=a[1][0]", 16, 1), 2);
        String next = "nest i from 99+99+99+99 to 99+99+99+99,j from 0 to 1:a[9*i+i+99+37]=b[0]";
        due("T3: 4096 times the array", cold(next, 16, 1), 1);
        LoopTiler x = Sheet.told(next);
        due("T3: one address is not one element", x.pairs(0, 0) + x.pairs(0, 1), 0);
        due("T3: 4096 times the array", cold(next.replace("37", "36"), 16, 1), 2);
        due("T3: 4096 times the array, the last", cold(next.replace("a[9", "c[9").replace("b[0]", "d[0]"), 16, 1), 1);
        due("T3: 4096 times the array, below 0", cold("nest i from 99+99+99+99 to 99+99+99+99:b[-9*i-i-99-37]=a[0]", 16, 1), 1);
    }

    private static void linesAndSets() {
        String row = "nest i from 0 to 15:a[i]=";
        due("T3: L 16", cold(row, 16, 16), 1);
        due("T3: L 15", cold(row, 16, 15), 2);
        due("T3: L 1", cold(row, 16, 1), 16);
        due("T3: L 5: 0, 5, 10, 15", cold(row, 16, 5), 4);
        due("T3: lines begin at multiples of L", cold("nest i from 3 to 4:a[i]=", 16, 4), 2);
        due("T3: lines begin at multiples of L", cold("nest i from 4 to 7:a[i]=", 16, 4), 1);
        due("T3: downwards", cold("nest i from -4 to -1:a[i]=", 16, 4), 1);
        due("T3: downwards", cold("nest i from -5 to -4:a[i]=", 16, 4), 2);
        due("T3: downwards", cold("nest i from -1 to 0:a[i]=", 16, 4), 2);
        due("T3: downwards", cold("nest i from -3 to 3:a[i]=", 16, 4), 2);
        // 4096 is 1365 times 3 and 1, so b begins within a line, c at the end of one
        int[] threes = {1, 2, 2, 1};
        for (int a = 0; a < 4; a++) {
            due("T3: lines of 3, array " + a, cold("nest i from 0 to 2:" + (char) ('a' + a) + "[i]=", 16, 3), threes[a]);
        }
        due("T3: lines of 3, b", cold("nest i from -1 to 1:b[i]=", 16, 3), 1);
        due("T3: lines of 3, c", cold("nest i from 1 to 3:c[i]=", 16, 3), 1);
        due("T3: all variables", cold("nest i from 0 to 1,j from 0 to 2,k from 0 to 3:a[i][k]=", 16, 1), 8);
        due("T3: all variables", cold("nest i from 0 to 1,j from 0 to 2,k from 0 to 3:a[j][9*i+k]=", 16, 1), 24);
        LoopTiler x = Sheet.told("nest i from 0 to 0:a[-1]=a[3]a[-1]a[3]");
        x.cache(1, 1);
        x.cache(3, 1);
        due("T3: what -1 leaves by 4 is 3", x.misses(0, 0), 4);
        x = Sheet.told("nest i from 0 to 0:a[-1]=a[1]a[-1]a[1]");
        x.cache(1, 1);
        x.cache(3, 1);
        due("T3: what -1 leaves by 4 is not 1", x.misses(0, 0), 2);
        x = Sheet.told("nest i from 0 to 0:a[-4]=a[0]a[-4]a[0]");
        x.cache(1, 1);
        x.cache(3, 1);
        due("T3: what -4 leaves by 4 is 0", x.misses(0, 0), 4);
        x = Sheet.told("nest i from 0 to 1,j from 0 to 15:a[j]=");
        x.cache(1, 1);
        x.cache(3, 1);
        x.cache(2, 16);
        due("T3: SETS 16", x.misses(0, 0), 16);
        x.cache(2, 15);
        due("T3: SETS 15: 0 and 15 are of one", x.misses(0, 0), 18);
        x.cache(2, 1);
        due("T3: SETS 1: all are of one", x.misses(0, 0), 32);
    }

    private static void ways() {
        LoopTiler x = Sheet.told("nest i from 0 to 1,j from 0 to 7:a[j]=");
        x.cache(1, 1);
        x.cache(2, 1);
        x.cache(3, 8);
        due("T3: WAYS 8: all are there", x.misses(0, 0), 8);
        x.cache(3, 7);
        due("T3: WAYS 7: each is put out just ahead of its touch", x.misses(0, 0), 16);
        x.cache(2, 16);
        x.cache(3, 8);
        due("T3: SETS 16, WAYS 8", x.misses(0, 0), 8);
        x = Sheet.told("nest i from 0 to 1,j from 0 to 99+28:a[j]=");
        x.cache(1, 1);
        x.cache(2, 16);
        x.cache(3, 8);
        due("T3: SETS 16, WAYS 8: all 128 are there", x.misses(0, 0), 128);
        x = Sheet.told("nest i from 0 to 1,j from 0 to 99+29:a[j]=");
        x.cache(1, 1);
        x.cache(2, 16);
        x.cache(3, 8);
        due("T3: one more: the nine of its set put one another out", x.misses(0, 0), 120 + 18);
        x = Sheet.told("nest i from 0 to 0:a[0]=a[0]a[1]a[0]a[2]");
        x.cache(1, 1);
        x.cache(2, 1);
        due("T3: touched longest ago, not come longest ago", x.misses(0, 0), 3);
        due("T3: it is empty at first, each time", x.misses(0, 0), 3);
        x = Sheet.told("nest i from 0 to 0:a[1]=a[0]a[1]a[0]a[2]");
        x.cache(1, 1);
        x.cache(2, 1);
        due("T3: that which was touched longest ago is put out", x.misses(0, 0), 4);
        x.cache(3, 3);
        due("T3: none is put out, if the ways are not full", x.misses(0, 0), 3);
        x.cache(3, 1);
        due("T3: WAYS 1", x.misses(0, 0), 5);
        x = Sheet.told("nest i from 0 to 1:a[0]=b[0]c[0]d[0]");
        due("T3: four arrays of one set, 2 ways", x.misses(0, 0), 8);
        x.cache(3, 3);
        due("T3: 3 ways", x.misses(0, 0), 8);
        x.cache(3, 4);
        due("T3: 4 ways", x.misses(0, 0), 4);
        x.cache(3, 1);
        due("T3: 1 way", x.misses(0, 0), 8);
    }

    private static void misses() {
        for (int depth = 1; depth <= 3; depth++) {
            LoopTiler x = Sheet.told(DEEP[depth - 1]);
            for (int what : new int[] {-1, 6, LOW, HIGH}) {
                due("P26: what " + what, x.misses(0, what), NONE);
            }
            due("T3: without a tile all turns are one", x.misses(0, 4), 1);
            due("T3: without a tile", x.misses(0, 3), x.misses(0, 1));
            due("T3: without a tile", x.misses(0, 5), x.misses(0, 1));
            for (int tiled = 0; tiled < 2; tiled++) {
                x = Sheet.told(EMPTY[depth - 1]);
                x.tile(0, 0, tiled, 2);
                for (int what = 0; what < 6; what++) {
                    due("P26: no turns, what " + what, x.misses(0, what), 0);
                }
                due("P27: no turns", x.tileOf(0, 0, 0), NONE);
            }
        }
        LoopTiler x = Sheet.told("nest i from 0 to 1,j from 0 to 3:a[j]=a[j]");
        x.cache(1, 1);
        x.cache(2, 1);
        x.cache(3, 3);
        due("P26: touches", x.misses(0, 2), 16);
        due("P26: misses, 4 lines in 3 ways", x.misses(0, 0), 8);
        x.swap(0, 0, 1);
        due("P26: in order: j goes ahead", x.misses(0, 0), 4);
        x.swap(0, 0, 1);
        x.turn(0, 0);
        due("P26: in order, legal or not", x.legal(0), 0);
        due("P26: in order, legal or not", x.misses(0, 0), 8);
    }

    private static void tilesOfANest() {
        LoopTiler x = Sheet.told("nest i from 0 to 1,j from 0 to 3:a[j]=");
        x.cache(1, 1);
        x.tile(0, 0, 2, 1);
        due("T3: each turn is a tile", x.misses(0, 4), 8);
        due("T3: only the one just ahead counts", x.misses(0, 3), 8);
        due("T3: the greatest footprint", x.misses(0, 5), 1);
        x.cache(1, 4);
        due("T3: all of one line", x.misses(0, 3), 1);
        x.cache(1, 1);
        x.tile(0, 0, 2, 16);
        due("T3: one tile", x.misses(0, 4), 1);
        due("T3: one tile", x.misses(0, 5), 4);
        x.tile(0, 0, 2, 1);
        due("T3: the greatest footprint, less than it was", x.misses(0, 5), 1);
        x.tile(0, 1, 1, 2);
        due("T3: unlike ahead of the tile", x.misses(0, 4), 4);
        due("T3: 0 1, 2 3, 0 1, 2 3", x.misses(0, 3), 8);
        x.tile(0, 1, 1, 16);
        due("T3: alike by SIZE, unlike ahead of it", x.misses(0, 4), 2);
        x.tile(0, 0, 1, 2);
        due("T3: alike up to the n by SIZE, unlike behind", x.misses(0, 4), 1);
        x.tile(0, 0, 1, 1);
        due("T3: two tiles of the same lines", x.misses(0, 4), 2);
        due("T3: less those of the one just ahead", x.misses(0, 3), 4);
    }

    private static void tileOf() {
        LoopTiler x = Sheet.told("nest i from 0 to 1,j from 0 to 4:a[j]=");
        x.cache(1, 1);
        due("P27: without a tile", x.tileOf(0, 0, 0), 5);
        due("P27: without a tile", x.tileOf(0, 0, 1), 10);
        due("P27: without a tile, of the first", x.tileOf(0, 0, 2), 0);
        due("P27: without a tile there is one", x.tileOf(0, 1, 0), NONE);
        x.tile(0, 0, 1, 1);
        for (int i = 0; i < 2; i++) {
            due("P27: lines", x.tileOf(0, i, 0), 5);
            due("P27: turns", x.tileOf(0, i, 1), 5);
            due("P27: of the first 0", x.tileOf(0, i, 2), i == 0 ? 0 : 5);
        }
        x.tile(0, 1, 1, 3);
        int[] turns = {3, 2, 3, 2};
        for (int i = 0; i < 4; i++) {
            due("P27: the last of a row is smaller", x.tileOf(0, i, 1), turns[i]);
            due("P27: the one just ahead alone", x.tileOf(0, i, 2), 0);
        }
        for (int what = 0; what < 3; what++) {
            for (int i : new int[] {-1, 4, 5, LOW, HIGH}) {
                due("P27: i " + i, x.tileOf(0, i, what), NONE);
            }
        }
        for (int what : new int[] {-1, 3, LOW, HIGH}) {
            due("P27: what " + what, x.tileOf(0, 0, what), NONE);
        }
    }

    private static void best() {
        // from SIZE 4 on a tile has all i, up to SIZE 8 it has no more addresses than there are ways
        LoopTiler x = Sheet.told("nest i from 0 to 3,j from 0 to 15:a[j]=");
        x.cache(1, 1);
        x.cache(2, 1);
        x.cache(3, 8);
        due("P28: SIZES of which rows are kept: the least", x.best(0, 0, 2, 0), 4);
        due("P28: each but once", x.best(0, 0, 2, 1), 16);
        x = Sheet.told("nest i from 0 to 15,j from 0 to 15:a[j]=");
        x.cache(1, 1);
        x.cache(2, 16);
        x.cache(3, 1);
        due("P28: of several the least", x.best(0, 0, 2, 0), 1);
        due("P28: of several the least", x.best(0, 0, 2, 1), 16);
        x = Sheet.told("nest i from 0 to 15,j from 0 to 30:a[j]=");
        x.cache(1, 1);
        x.cache(2, 16);
        x.cache(3, 1);
        due("P28: SIZE 16", x.best(0, 0, 2, 0), 16);
        for (int depth = 1; depth <= 3; depth++) {
            for (int f = 0; f < depth; f++) {
                for (int n = 1; f + n <= depth; n++) {
                    bestOne(depth, f, n);
                    x = Sheet.told(EMPTY[depth - 1]);
                    due("P28: no turns: the least", x.best(0, f, n, 0), 1);
                    due("P28: no turns", x.best(0, f, n, 1), 0);
                }
            }
        }
        x = Sheet.told("nest i from 0 to 3,j from 0 to 3:a[i][j]=a[i-1][j+1]");
        x.turn(0, 0);
        due("P28: legal or not", x.legal(0), 0);
        due("P28: legal or not", x.best(0, 0, 2, 1) > 0, true);
    }

    /** Against each SIZE told and asked for; the tile that is there is neither looked at nor changed. */
    private static void bestOne(int depth, int f, int n) {
        LoopTiler x = changed(depth).get();
        int fewest = HIGH;
        int size = 0;
        for (int s = 1; s <= 16; s++) {
            x.tile(0, f, n, s);
            if (x.misses(0, 0) < fewest) {
                fewest = x.misses(0, 0);
                size = s;
            }
        }
        sheet.refused("P28: best " + f + " " + n + ", its size", changed(depth), y -> y.best(0, f, n, 0), size);
        sheet.refused("P28: best " + f + " " + n + ", its misses", changed(depth), y -> y.best(0, f, n, 1), fewest);
    }

    private static void bestRefused() {
        for (int depth = 1; depth <= 3; depth++) {
            Supplier<LoopTiler> made = changed(depth);
            for (int f = 0; f < depth; f++) {
                int from = f;
                for (int n : new int[] {0, -1, depth - f + 1, depth + 1, LOW, HIGH, HIGH - f + 1}) {
                    sheet.refused("P28: f " + f + ", n " + n, made, x -> x.best(0, from, n, 0), NONE);
                }
            }
            for (int f : new int[] {-1, depth, 3, LOW, HIGH}) {
                for (int n : new int[] {1, 2, LOW, HIGH}) {
                    sheet.refused("P28: f " + f + ", n " + n, made, x -> x.best(0, f, n, 1), NONE);
                }
            }
            for (int what : new int[] {-1, 2, LOW, HIGH}) {
                sheet.refused("P28: what " + what, made, x -> x.best(0, 0, 1, what), NONE);
            }
        }
    }

    private static void count() {
        LoopTiler x = changed(2).get();
        for (int what : new int[] {-1, 6, 7, LOW, HIGH}) {
            due("P29: what " + what, x.count(what), NONE);
            due("P29: what " + what + " of a new one", new LoopTiler().count(what), NONE);
        }
        int[] due = {2, 5, 4, 4, 1, 0};
        for (int what = 0; what < 6; what++) {
            due("P29: what " + what, x.count(what), due[what]);
        }
        x.feed(0, 0, 0, 0, 0);
        due("P29: bytes on the tape", x.count(5), 20);
        x.text(0);
        due("P29: none", x.count(5), 0);
    }
}

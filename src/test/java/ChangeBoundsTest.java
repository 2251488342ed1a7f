import java.util.function.Supplier;

/** Boundary cases of promises 5 to 21 and of the second part of 'Terms', sentence by sentence. */
public final class ChangeBoundsTest {
    private static final int NONE = -1;
    private static final int NOWHERE = -1000000;
    private static final int LOW = Integer.MIN_VALUE;
    private static final int HIGH = Integer.MAX_VALUE;
    private static final Sheet sheet = new Sheet();

    /** One, two, three loops; of each a distance for each loop. */
    private static final String[] DEEP = {
        "nest i from 0 to 3:a[i]=a[i-1]",
        "nest i from 0 to 3,j from 0 to 2:a[i][j]=a[i-1][j]a[i][j-1]",
        "nest i from 0 to 1,j from 0 to 2,k from 0 to 2:a[9*i+3*j+k]=a[9*i+3*j+k-1]a[9*i+3*j+k-3]a[9*i+3*j+k-9]",
    };
    /** No turns at all. */
    private static final String[] EMPTY = {
        "nest i from 1 to 0:a[0]=a[0]",
        "nest i from 0 to 3,j from i+1 to i:a[0]=a[0]",
        "nest i from 0 to 3,j from 0 to 3,k from 1 to 0:a[0]=a[0]",
    };
    /** Each element is touched in one turn alone. */
    private static final String[] LOOSE = {
        "nest i from 0 to 3:a[i]=a[i]",
        "nest i from 0 to 3,j from 0 to 2:a[i][j]=a[i][j]",
        "nest i from 0 to 1,j from 0 to 2,k from 0 to 2:a[9*i+3*j+k]=b[0]",
    };
    /** Of real numbers alone, i from a third to a half, j from 1 to five thirds, k from a half to 1: no turns. */
    private static final String REAL = "nest i from 0 to 1,j from 3*i to 2-i,k from 1-i to 2*i:a[i]=";

    public static void main(String[] args) {
        pairs();
        mostPairs();
        distance();
        farDistance();
        onePair();
        direction();
        swapAndTurn();
        skew();
        skewRefused();
        tile();
        anew();
        change();
        keys();
        keysDownwards();
        keysFar();
        legal();
        broken();
        carried();
        band();
        span();
        spanOfRealNumbers();
        visits();
        at();
        place();
        sheet.end("ChangeBoundsTest");
    }

    private static void due(String call, long got, long want) {
        sheet.due(call, got, want);
    }

    private static void due(String call, boolean got, boolean want) {
        sheet.due(call, got, want);
    }

    /** A nest with a change and a tile, that a refused call must leave. */
    private static Supplier<LoopTiler> changed(int depth) {
        return () -> {
            LoopTiler x = Sheet.told(DEEP[depth - 1]);
            x.turn(0, depth - 1);
            x.skew(0, 0, depth - 1, 2);
            x.tile(0, depth - 1, 1, 2);
            return x;
        };
    }

    // ---- pairs

    private static void kinds(String name, String statements, int turns, int... due) {
        LoopTiler x = Sheet.told("nest i from 1 to " + turns + ":" + statements);
        for (int kind = 0; kind < 3; kind++) {
            due("P5: " + name + ", kind " + kind, x.pairs(0, kind), due[kind]);
        }
        due("P5: " + name + ", all", x.pairs(0, 3), due[0] + due[1] + due[2]);
    }

    private static void pairs() {
        kinds("writes, then reads", "a[i]=a[i-1]", 4, 3, 0, 0);
        kinds("reads, then writes", "a[i]=a[i+1]", 4, 0, 3, 0);
        kinds("both write", "a[0]=", 4, 0, 0, 3);
        kinds("neither writes", "b[i]=a[0]a[0]", 4, 0, 0, 0);
        kinds("in unlike turns: one turn", "a[0]=a[0],a[0]=a[0]", 1, 0, 0, 0);
        kinds("in unlike turns: no turn", "a[0]=a[0],a[0]=a[0]", 0, 0, 0, 0);
        kinds("in unlike turns: two", "a[0]=a[0]", 2, 1, 0, 1);
        kinds("a touch of q between writes it", "a[0]=,b[i]=a[0]", 4, 0, 3, 3);
        kinds("a touch of p between writes it", "b[0]=a[0],a[0]=", 4, 3, 0, 6);
        kinds("a touch of a turn between writes it", "a[0]=", 3, 0, 0, 2);
        kinds("each touch is one", "a[0]=a[0]a[0]a[0]a[0]", 2, 4, 0, 1);
        kinds("each touch is one", "b[i]=a[0]a[0],c[i]=a[0],a[0]=,a[0]=", 2, 3, 0, 1);
        kinds("reads between are of no matter", "b[i]=a[3]a[3],a[i]=", 5, 4, 4, 0);
        LoopTiler x = Sheet.told(DEEP[0]);
        for (int kind : new int[] {-1, 4, 5, LOW, HIGH}) {
            due("P5: kind " + kind, x.pairs(0, kind), NONE);
        }
        for (int depth = 0; depth < 3; depth++) {
            due("P5: no turns", Sheet.told(EMPTY[depth]).pairs(0, 3), 0);
            due("P5: no pairs", Sheet.told(LOOSE[depth]).pairs(0, 3), 0);
        }
    }

    /** 500 turns of 20 touches; nearly each read is written ahead of it and behind it, in other turns. */
    private static void mostPairs() {
        StringBuilder text = new StringBuilder("nest i from 0 to 19,j from 0 to 24:");
        for (char a = 'a'; a <= 'd'; a++) {
            text.append(a == 'a' ? "" : ",").append("a[j]=a[j+1]a[j+1]a[j+1]a[j+1]".replace('a', a));
        }
        LoopTiler x = Sheet.told(text.toString());
        due("P5: the most pairs, kind 0", x.pairs(0, 0), 19 * 24 * 16);
        due("P5: the most pairs, kind 1", x.pairs(0, 1), 20 * 24 * 16);
        due("P5: the most pairs, kind 2", x.pairs(0, 2), 19 * 25 * 4);
        due("P5: the most pairs", x.pairs(0, 3), 16876);
        due("P6: of the most pairs, 0 1", x.distance(0, 0, 3), 20 * 24 * 16);
        due("P6: of the most pairs, 1 -1", x.distance(0, 1, 3), 19 * 24 * 16);
        due("P6: of the most pairs, 1 0", x.distance(0, 2, 3), 19 * 25 * 4);
        due("P6: of the most pairs", x.distance(0, NONE, 0), 3);
        x.turn(0, 1);
        due("P15: of the most pairs, 0 1", x.broken(0, 0), 20 * 24 * 16);
        due("P16: of the most pairs, 1 -1, 1 0", x.carried(0, 0), 19 * 24 * 16 + 19 * 25 * 4);
    }

    private static void distance() {
        LoopTiler x = Sheet.told("nest i from 0 to 2,j from 0 to 2:a[i][j]=a[i-1][j+1]a[i][j-1]a[i-1][j]");
        int[][] rising = {{0, 1, 0, 6}, {1, -1, 0, 4}, {1, 0, 0, 6}};
        for (int what = 0; what < 4; what++) {
            due("P6: how many, what 0 to 3", x.distance(0, NONE, what), 3);
            for (int i = 0; i < 3; i++) {
                due("P6: by variables, rising; 0 behind D", x.distance(0, i, what), rising[i][what]);
            }
            for (int i : new int[] {3, 4, -2, LOW, HIGH}) {
                due("P6: i " + i, x.distance(0, i, what), NOWHERE);
            }
        }
        for (int what : new int[] {-1, 4, LOW, HIGH}) {
            due("P6: what " + what, x.distance(0, 0, what), NOWHERE);
            due("P6: what " + what + " of how many", x.distance(0, NONE, what), NOWHERE);
        }
        x = Sheet.told(DEEP[0]);
        due("P6: 0 behind D", x.distance(0, 0, 1), 0);
        due("P6: 0 behind D", x.distance(0, 0, 2), 0);
        for (int what = 0; what < 4; what++) {
            due("P6: no pairs", Sheet.told(LOOSE[1]).distance(0, NONE, what), 0);
            due("P6: no pairs", Sheet.told(LOOSE[1]).distance(0, 0, what), NOWHERE);
            due("P6: no turns", Sheet.told(EMPTY[2]).distance(0, NONE, what), 0);
            due("P6: no turns", Sheet.told(EMPTY[2]).distance(0, 0, what), NOWHERE);
        }
    }

    /** From -999 to 999: turn -i writes what turn i reads, or the other way. */
    private static void farDistance() {
        for (int sign = -1; sign < 2; sign += 2) {
            String j = sign < 0 ? "-9*i" : "9*i";
            LoopTiler x = Sheet.told("nest i from -99-12 to 99+12,j from " + j + " to " + j + ":a[i]=a[-i]");
            due("P6: far, how many", x.distance(0, NONE, 0), 111);
            due("P6: the first", x.distance(0, 0, 0), 2);
            due("P6: the first", x.distance(0, 0, 1), sign * 18);
            due("P6: the last", x.distance(0, 110, 0), 222);
            due("P6: the furthest", x.distance(0, 110, 1), sign * 1998);
            due("P6: pairs of it", x.distance(0, 110, 3), 2);
            due("P6: behind it", x.distance(0, 111, 0), NOWHERE);
            due("P7: far is above 0 as near is", x.direction(0, 1, sign, 0, 1), 222);
            due("P7: one direction", x.direction(0, 0, 0, 0, 0), 1);
        }
    }

    private static void onePair() {
        LoopTiler x = Sheet.told("nest i from 0 to 1:a[i]=a[i-1]");
        due("P5: one pair", x.pairs(0, 3), 1);
        due("P6: one distance", x.distance(0, NONE, 3), 1);
        due("P6: one pair has it", x.distance(0, 0, 3), 1);
        due("P7: one direction", x.direction(0, 0, 0, 0, 0), 1);
        due("P7: one pair has it", x.direction(0, 1, 0, 0, 1), 1);
        due("P16: one is carried", x.carried(0, 0), 1);
        due("P17: one level", x.band(0, 0), 1);
        x.turn(0, 0);
        due("P14: one is broken", x.legal(0), 0);
        due("P15: one is broken", x.broken(0, 0), 1);
        due("P15: one is broken", x.broken(0, 1), 1);
        due("P17: none", x.band(0, 0), 0);
        x = Sheet.told("nest i from 0 to 3:a[i]=a[i-3]a[i-2]a[i-1]");
        int[] due = {3, 2, 1};
        for (int i = 0; i < 3; i++) {
            due("P6: pairs of " + (i + 1), x.distance(0, i, 3), due[i]);
        }
    }

    private static void direction() {
        for (int depth = 1; depth <= 3; depth++) {
            LoopTiler x = Sheet.told(DEEP[depth - 1]);
            int all = 0;
            for (int d = 0; d < 27; d++) {
                if (depth > 1 || d % 9 == 0) {
                    all += depth > 2 || d % 3 == 0 ? x.direction(0, d / 9 - 1, d / 3 % 3 - 1, d % 3 - 1, 1) : 0;
                }
            }
            due("P7: -1 to 1 are all there are", all, x.pairs(0, 3));
            for (int beyond : new int[] {-2, 2, LOW, HIGH}) {
                due("P7: a " + beyond, x.direction(0, beyond, 0, 0, 1), NONE);
                due("P7: b " + beyond, x.direction(0, 0, beyond, 0, 1), depth > 1 ? NONE : 0);
                due("P7: c " + beyond, x.direction(0, 0, 0, beyond, 1), depth > 2 ? NONE : 0);
            }
            for (int what : new int[] {-1, 2, LOW, HIGH}) {
                due("P7: what " + what, x.direction(0, 0, 0, 0, what), NONE);
            }
            due("P7: none has it", x.direction(0, -1, -1, -1, 1), 0);
            due("P7: no pairs", Sheet.told(LOOSE[depth - 1]).direction(0, 0, 0, 0, 0), 0);
            due("P7: no pairs", Sheet.told(LOOSE[depth - 1]).direction(0, 0, 0, 0, 1), 0);
            due("P7: no turns", Sheet.told(EMPTY[depth - 1]).direction(0, 0, 0, 0, 0), 0);
        }
        LoopTiler x = Sheet.told(DEEP[0]);
        due("P7: behind D it does not matter", x.direction(0, 1, LOW, HIGH, 1), 3);
        x = Sheet.told(DEEP[1]);
        due("P7: behind D it does not matter", x.direction(0, 0, 1, HIGH, 1), 8);
        due("P7: 0 is not above 0", x.direction(0, 1, 1, 0, 1), 0);
        due("P7: how many unlike ones", x.direction(0, 0, 0, 0, 0), 2);
    }

    // ---- changes

    private static void swapAndTurn() {
        for (int depth = 1; depth <= 3; depth++) {
            for (int level = -1; level <= depth; level++) {
                for (int other = -1; other <= depth; other++) {
                    swapOne(depth, level, other);
                }
                turnOne(depth, level);
            }
            for (int far : new int[] {3, LOW, HIGH}) {
                swapOne(depth, far, 0);
                swapOne(depth, 0, far);
                swapOne(depth, far, far);
                turnOne(depth, far);
            }
        }
    }

    private static void swapOne(int depth, int level, int other) {
        String name = "P8: D " + depth + ", swap of " + level + " and " + other;
        boolean fine = level >= 0 && level < depth && other >= 0 && other < depth && level != other;
        if (!fine) {
            sheet.refused(name, changed(depth), x -> x.swap(0, level, other) ? 1 : 0, 0);
            return;
        }
        LoopTiler x = Sheet.told(DEEP[depth - 1]);
        due(name, x.swap(0, level, other), true);
        for (int row = 0; row < depth; row++) {
            int was = row == level ? other : row == other ? level : row;
            for (int place = 0; place < depth; place++) {
                due(name, x.change(0, row, place, false), place == was ? 1 : 0);
            }
        }
    }

    private static void turnOne(int depth, int level) {
        String name = "P9: D " + depth + ", turn of " + level;
        if (level < 0 || level >= depth) {
            sheet.refused(name, changed(depth), x -> x.turn(0, level) ? 1 : 0, 0);
            return;
        }
        LoopTiler x = Sheet.told(DEEP[depth - 1]);
        due(name, x.turn(0, level), true);
        for (int row = 0; row < depth; row++) {
            for (int place = 0; place < depth; place++) {
                due(name, x.change(0, row, place, false), place != row ? 0 : row == level ? -1 : 1);
            }
        }
        due(name + " back", x.turn(0, level), true);
        due(name + " back", x.change(0, level, level, false), 1);
    }

    private static void skew() {
        LoopTiler x = Sheet.told(DEEP[1]);
        due("P10: f 9", x.skew(0, 0, 1, 9), true);
        due("T2: 9 is not beyond", x.change(0, 0, 1, false), 9);
        due("T2: 10 is", x.skew(0, 0, 1, 1), false);
        due("T2: refused, nothing changes", x.change(0, 0, 1, false), 9);
        due("T2: refused, nothing changes", x.change(0, 0, 0, false), 1);
        due("T2: 18 is", x.skew(0, 0, 1, 9), false);
        due("P10: f -9", x.skew(0, 0, 1, -9), true);
        due("P10: f -9", x.skew(0, 0, 1, -9), true);
        due("T2: -9 is not beyond", x.change(0, 0, 1, false), -9);
        due("T2: -10 is", x.skew(0, 0, 1, -1), false);
        due("T2: refused, nothing changes", x.change(0, 0, 1, false), -9);
        due("P10: the row that is added stays", x.change(0, 1, 0, false), 0);
        due("P9: a row with -9", x.turn(0, 0), true);
        due("P9: a row with -9", x.change(0, 0, 1, false), 9);
        due("P10: another row's -9 times -1 is 9", x.skew(0, 0, 1, -1), true);
        due("P10: another row's -9 times -1 is 9", x.change(0, 0, 1, false), 8);
        // the first number is beyond, those behind it are not
        x = Sheet.told(DEEP[2]);
        x.skew(0, 2, 0, 9);
        due("T2: the first number beyond", x.skew(0, 2, 0, 1), false);
        due("T2: the last number stays", x.change(0, 2, 2, false), 1);
        // the last number is beyond, those ahead of it are not
        x = Sheet.told(DEEP[2]);
        x.skew(0, 0, 2, 9);
        x.skew(0, 1, 2, 1);
        due("T2: the last number beyond", x.skew(0, 0, 1, 1), false);
        due("T2: the numbers ahead of it stay", x.change(0, 0, 1, false), 0);
        due("T2: the last number less", x.skew(0, 0, 1, -1), true);
        due("T2: the numbers ahead of it, too", x.change(0, 0, 1, false), -1);
        due("T2: the last number less", x.change(0, 0, 2, false), 8);
        x = Sheet.told(DEEP[1]);
        x.skew(0, 1, 0, 9);
        due("T2: the sum counts, not what is added", x.skew(0, 1, 0, -9), true);
        x.skew(0, 1, 0, 9);
        x.swap(0, 0, 1);
        x.skew(0, 1, 0, -1);
        // rows 9 1 and -8 -1
        due("T2: -8 and twice 9", x.skew(0, 1, 0, 2), false);
        due("T2: -8 and once 9", x.skew(0, 1, 0, 1), true);
        due("T2: -8 and once 9", x.change(0, 1, 0, false), 1);
    }

    private static void skewRefused() {
        for (int depth = 1; depth <= 3; depth++) {
            Supplier<LoopTiler> made = changed(depth);
            for (int level = 0; level < depth; level++) {
                int l = level;
                int by = (level + 1) % depth;
                for (int f : new int[] {0, 10, -10, 1 << 30, (1 << 30) + 1, LOW, LOW + 1, HIGH}) {
                    sheet.refused("P10: f " + f, made, x -> x.skew(0, l, by, f) ? 1 : 0, 0);
                }
                sheet.refused("P10: a level by itself", made, x -> x.skew(0, l, l, 1) ? 1 : 0, 0);
                for (int far : new int[] {-1, depth, 3, LOW, HIGH}) {
                    sheet.refused("P10: by " + far, made, x -> x.skew(0, l, far, 1) ? 1 : 0, 0);
                    sheet.refused("P10: level " + far, made, x -> x.skew(0, far, l, 1) ? 1 : 0, 0);
                }
            }
        }
        for (int f = -9; f <= 9; f++) {
            LoopTiler x = Sheet.told(DEEP[1]);
            due("P10: f " + f, x.skew(0, 1, 0, f), f != 0);
            due("P10: f " + f, x.change(0, 1, 0, false), f);
        }
    }

    private static void tile() {
        for (int depth = 1; depth <= 3; depth++) {
            for (int f = -1; f <= depth; f++) {
                for (int n = -1; n <= depth + 1; n++) {
                    for (int size : new int[] {-1, 0, 1, 16, 17, LOW, HIGH}) {
                        tileOne(depth, f, n, size);
                    }
                }
                for (int far : new int[] {LOW, HIGH, HIGH - f + 1, HIGH - f + 2}) {
                    tileOne(depth, f, far, 2);
                    tileOne(depth, far, 1, 2);
                    tileOne(depth, far, 0, 2);
                }
            }
        }
        LoopTiler x = Sheet.told(DEEP[1]);
        due("T2: none at first", x.nest(0, 5), 0);
        x.tile(0, 0, 2, 3);
        due("P11: a tile in place of another", x.tile(0, 1, 1, 5), true);
        due("P11: a tile in place of another", x.nest(0, 4), 1);
        due("P11: a tile in place of another", x.nest(0, 6), 5);
        due("P11: a change stays", x.change(0, 0, 0, false), 1);
    }

    private static void tileOne(int depth, int f, int n, int size) {
        String name = "P11: D " + depth + ", tile " + f + " " + n + " " + size;
        boolean none = n == 0;
        boolean fine = f >= 0 && f < depth && n > 0 && n <= depth && f + n <= depth && size >= 1 && size <= 16;
        if (!none && !fine) {
            sheet.refused(name, changed(depth), x -> x.tile(0, f, n, size) ? 1 : 0, 0);
            return;
        }
        LoopTiler x = changed(depth).get();
        due(name, x.tile(0, f, n, size), true);
        due(name + ": f", x.nest(0, 4), none ? 0 : f);
        due(name + ": n", x.nest(0, 5), none ? 0 : n);
        due(name + ": SIZE", x.nest(0, 6), none ? 0 : size);
    }

    private static void anew() {
        for (int depth = 1; depth <= 3; depth++) {
            LoopTiler x = changed(depth).get();
            String first = Sheet.state(Sheet.told(DEEP[depth - 1]));
            due("P12: it was not as at first", Sheet.state(x).equals(first), false);
            x = changed(depth).get();
            due("P12: anew", x.anew(0), true);
            due("P12: the change, the tile are as at first", Sheet.state(x).equals(first), true);
            due("P12: anew again", x.anew(0), true);
        }
        LoopTiler x = Sheet.told(DEEP[1] + ";" + DEEP[1]);
        x.swap(0, 0, 1);
        x.tile(0, 0, 1, 2);
        due("P12: the other nest", x.anew(1), true);
        due("P12: this one's change stays", x.change(0, 0, 0, false), 0);
        due("P12: this one's tile stays", x.nest(0, 6), 2);
    }

    private static void change() {
        for (int depth = 1; depth <= 3; depth++) {
            LoopTiler x = Sheet.told(DEEP[depth - 1]);
            for (int row = -1; row <= 3; row++) {
                for (int place = -1; place <= 3; place++) {
                    boolean there = row >= 0 && row < depth && place >= 0 && place < depth;
                    int due = !there ? NOWHERE : row == place ? 1 : 0;
                    due("P13: at first, " + row + " " + place, x.change(0, row, place, false), due);
                    due("P13: back at first, " + row + " " + place, x.change(0, row, place, true), due);
                }
            }
            for (int far : new int[] {LOW, HIGH}) {
                due("P13: row " + far, x.change(0, far, 0, false), NOWHERE);
                due("P13: place " + far, x.change(0, 0, far, false), NOWHERE);
                due("P13: row " + far, x.change(0, far, 0, true), NOWHERE);
                due("P13: place " + far, x.change(0, 0, far, true), NOWHERE);
            }
        }
        LoopTiler x = Sheet.told(DEEP[2]);
        x.skew(0, 2, 1, -9);
        x.skew(0, 1, 0, 9);
        // j is Y1 less 9 Y0, k is Y2 and 9 j
        due("P13: numbers that bring back may be beyond 9", x.change(0, 2, 0, true), -81);
        due("P13: rows of variables, places of levels", x.change(0, 1, 0, true), -9);
        due("P13: rows of variables, places of levels", x.change(0, 2, 1, true), 9);
        due("P13: rows of variables, places of levels", x.change(0, 0, 2, true), 0);
        x = Sheet.told(DEEP[1]);
        x.turn(0, 0);
        due("P13: turned, back", x.change(0, 0, 0, true), -1);
        x.swap(0, 0, 1);
        // Y0 is j, Y1 is less i
        due("P13: swapped, back", x.change(0, 0, 1, true), -1);
        due("P13: swapped, back", x.change(0, 1, 0, true), 1);
    }

    // ---- keys, order

    private static void keys() {
        LoopTiler x = Sheet.told(DEEP[2]);
        due("T2: levels ahead of f", x.tile(0, 1, 2, 2), true);
        int[][] first = {{0, 0, 0, 0}, {0, 0, 1, 1}, {0, 1, 0, 2}, {0, 1, 1, 3}, {0, 0, 2, 4}, {0, 1, 2, 5}, {0, 2, 0, 6},
            {0, 2, 1, 7}, {0, 2, 2, 8}, {1, 0, 0, 9}};
        for (int[] turn : first) {
            due("T2: levels 1, 2 by 2", x.place(0, turn[0], turn[1], turn[2]), turn[3]);
        }
        x.tile(0, 0, 2, 2);
        int[][] second = {{0, 0, 0, 0}, {0, 1, 0, 3}, {1, 0, 0, 6}, {1, 1, 2, 11}, {0, 2, 0, 12}, {1, 2, 0, 15}, {1, 2, 2, 17}};
        for (int[] turn : second) {
            due("T2: levels 0, 1 by 2, that behind", x.place(0, turn[0], turn[1], turn[2]), turn[3]);
        }
        String told = order(Sheet.told(DEEP[2]));
        for (int f = 0; f < 3; f++) {
            for (int n = 1; n + f <= 3; n++) {
                x.tile(0, f, n, 1);
                due("T2: SIZE 1 leaves the order", order(x).equals(told), true);
                x.tile(0, f, n, 16);
                due("T2: SIZE 16, all in one, leaves the order", order(x).equals(told), true);
            }
        }
        x.tile(0, 2, 1, 2);
        due("T2: the last level alone leaves the order", order(x).equals(told), true);
        x.tile(0, 0, 1, 2);
        due("T2: both i in one tile of the first level: the order stays", order(x).equals(told), true);
    }

    private static String order(LoopTiler x) {
        StringBuilder order = new StringBuilder();
        for (int i = 0; i < x.nest(0, 1); i++) {
            for (int v = 0; v < x.nest(0, 0); v++) {
                order.append(x.at(0, i, v)).append(' ');
            }
        }
        return order.toString();
    }

    private static void keysDownwards() {
        // by 3, downwards: -4 | -3 -2 -1 | 0 1 2 | 3
        LoopTiler x = Sheet.told("nest i from -4 to 3:a[0]=");
        x.tile(0, 0, 1, 3);
        due("T2: by SIZE, downwards: tiles", x.misses(0, 4), 4);
        int[] turns = {1, 3, 3, 1};
        for (int i = 0; i < 4; i++) {
            due("T2: by SIZE, downwards: turns", x.tileOf(0, i, 1), turns[i]);
        }
        due("T2: by SIZE, downwards: carried by tiles", x.carried(0, 0), 3);
        due("T2: by SIZE, downwards: carried in tiles", x.carried(0, 1), 4);
        x.turn(0, 0);
        // -3 -2 -1 | 0 1 2 | 3 4
        due("T2: turned", x.at(0, 0, 0), 3);
        due("T2: turned", x.tileOf(0, 0, 1), 3);
        due("T2: turned", x.tileOf(0, 1, 1), 3);
        due("T2: turned", x.tileOf(0, 2, 1), 2);
        due("T2: turned", x.tileOf(0, 3, 1), NONE);
    }

    /** Y0 is j less k, 0 or 1; Y1 goes from some -18000 to some 18000: what is far apart in it is behind Y0. */
    private static void keysFar() {
        LoopTiler x = Sheet.told("nest i from -99-11 to 99+12,j from 9*i to 9*i,k from 9*i-1 to 9*i:a[0]=");
        due("T2: turns", x.nest(0, 1), 444);
        x.swap(0, 0, 1);
        x.skew(0, 0, 2, -1);
        x.skew(0, 1, 2, 9);
        x.skew(0, 1, 0, 9);
        x.skew(0, 1, 2, 9);
        int[] rows = {0, 1, -1, 1, 9, 9, 0, 0, 1};
        for (int i = 0; i < 9; i++) {
            due("T2: the change", x.change(0, i / 3, i % 3, false), rows[i]);
        }
        int[][] tiles = {{0, 0, 1}, {1, 1, 1}, {1, 1, 2}, {1, 2, 3}, {1, 2, 16}, {2, 1, 16}, {0, 1, 1}, {0, 2, 1}, {0, 3, 1}};
        for (int[] tile : tiles) {
            x.tile(0, tile[0], tile[1], tile[2]);
            for (int i : new int[] {0, 1, 110, 220, 221}) {
                due("T2: far, Y0 is 0, " + tile[0] + tile[1], x.at(0, i, 0), i - 110);
                due("T2: far, Y0 is 0, " + tile[0] + tile[1], x.at(0, i, 2), 9 * (i - 110));
                due("T2: far, Y0 is 1, " + tile[0] + tile[1], x.at(0, 222 + i, 0), i - 110);
                due("T2: far, Y0 is 1, " + tile[0] + tile[1], x.at(0, 222 + i, 2), 9 * (i - 110) - 1);
            }
        }
    }

    private static void legal() {
        for (int depth = 1; depth <= 3; depth++) {
            LoopTiler x = Sheet.told(DEEP[depth - 1]);
            due("P14: as told", x.legal(0), 1);
            for (int level = 0; level < depth; level++) {
                x.turn(0, level);
            }
            due("P14: all turned round", x.legal(0), 0);
            due("P14: all turned round", x.broken(0, 0), x.pairs(0, 3));
            for (String text : new String[] {EMPTY[depth - 1], LOOSE[depth - 1]}) {
                x = Sheet.told(text);
                x.turn(0, 0);
                x.tile(0, 0, 1, 2);
                due("P14: no pairs, all are kept", x.legal(0), 1);
                due("P15: no pairs, none is broken", x.broken(0, 0), 0);
                due("P15: no pairs, all are kept", x.broken(0, 1), NOWHERE);
            }
        }
        // 1 -1: a tile alone breaks it, the change does not
        LoopTiler x = Sheet.told("nest i from 0 to 1,j from 0 to 3:a[i][j]=a[i-1][j+1]");
        x.tile(0, 0, 2, 1);
        due("P14: tiles of 1", x.legal(0), 1);
        x.tile(0, 0, 2, 2);
        due("P14: tiles of 2", x.legal(0), 0);
        due("P15: of three pairs, that from j 2 to j 1", x.broken(0, 0), 1);
        x.tile(0, 0, 2, 4);
        due("P14: one tile of all", x.legal(0), 1);
    }

    private static void broken() {
        LoopTiler x = Sheet.told(DEEP[1]);
        for (int what : new int[] {-1, 4, LOW, HIGH}) {
            due("P15: what " + what, x.broken(0, what), NOWHERE);
        }
        due("P15: all are kept", x.broken(0, 0), 0);
        for (int what = 1; what < 4; what++) {
            due("P15: all are kept, what " + what, x.broken(0, what), NOWHERE);
        }
        x.turn(0, 0);
        int[] first = {9, 1, 0, 0};
        int[] both = {17, 0, 1, 0};
        for (int what = 0; what < 4; what++) {
            due("P15: one distance is not kept, what " + what, x.broken(0, what), first[what]);
        }
        x.turn(0, 1);
        for (int what = 0; what < 4; what++) {
            due("P15: the least of two, 0 behind D, what " + what, x.broken(0, what), both[what]);
        }
        for (int what : new int[] {-1, 4, LOW, HIGH}) {
            due("P15: what " + what, x.broken(0, what), NOWHERE);
        }
        x = Sheet.told("nest i from 0 to 1,j from 0 to 3:a[i][j]=a[i-1][j+2]a[i-1][j+1]");
        x.swap(0, 0, 1);
        due("P15: the least is the furthest below 0", x.broken(0, 2), -2);
        x = Sheet.told(DEEP[0]);
        x.turn(0, 0);
        due("P15: 0 behind D", x.broken(0, 2), 0);
        due("P15: 0 behind D", x.broken(0, 3), 0);
    }

    private static void carried() {
        for (int depth = 1; depth <= 3; depth++) {
            LoopTiler x = Sheet.told(DEEP[depth - 1]);
            for (int n = 0; n <= depth; n++) {
                x.tile(0, depth - n, n, 2);
                int all = 0;
                for (int place = 0; place < depth + n; place++) {
                    all += x.carried(0, place);
                }
                due("P16: each pair is carried by one place", all, x.pairs(0, 3));
                for (int place : new int[] {-1, depth + n, depth + n + 1, LOW, HIGH}) {
                    due("P16: n " + n + ", place " + place, x.carried(0, place), NONE);
                }
            }
            for (int place = 0; place < depth; place++) {
                due("P16: no turns", Sheet.told(EMPTY[depth - 1]).carried(0, place), 0);
                due("P16: no pairs: side by side", Sheet.told(LOOSE[depth - 1]).carried(0, place), 0);
            }
        }
        LoopTiler x = Sheet.told(DEEP[1]);
        x.tile(0, 1, 1, 16);
        due("P16: a place at which all are alike", x.carried(0, 1), 0);
        due("P16: the place behind it", x.carried(0, 2), 8);
        x.turn(0, 0);
        due("P16: by a place, kept or not", x.carried(0, 0), 9);
    }

    private static void band() {
        for (int depth = 1; depth <= 3; depth++) {
            for (String text : new String[] {EMPTY[depth - 1], LOOSE[depth - 1], DEEP[depth - 1]}) {
                LoopTiler x = Sheet.told(text);
                for (int level = 0; level < depth && depth < 3; level++) {
                    due("P17: all levels from it on", x.band(0, level), depth - level);
                }
                for (int level : new int[] {-1, depth, 3, LOW, HIGH}) {
                    due("P17: level " + level, x.band(0, level), NONE);
                }
                x.turn(0, 0);
                due("P17: turned", x.band(0, 0), text.equals(DEEP[depth - 1]) ? 0 : depth);
            }
        }
        // 1 -1
        LoopTiler x = Sheet.told("nest i from 0 to 3,j from 0 to 3:a[i][j]=a[i-1][j+1]");
        due("P17: up to the level where it falls", x.band(0, 0), 1);
        due("P17: pairs that are unlike ahead of it do not count", x.band(0, 1), 1);
        x.tile(0, 0, 2, 2);
        due("P17: the tile is of no matter", x.band(0, 0), 1);
        x.swap(0, 0, 1);
        due("P17: 0, none", x.band(0, 0), 0);
        // 0 0 2, 0 1 -1, 1 -2 -1: one that is unlike at level 0 does not count from level 1 on
        x = Sheet.told("nest i from 0 to 1,j from 0 to 2,k from 0 to 2:a[9*i+3*j+k]=a[9*i+3*j+k-2]");
        due("P17: from level 0", x.band(0, 0), 1);
        due("P17: from level 1", x.band(0, 1), 1);
        due("P17: from level 2", x.band(0, 2), 1);
    }

    // ---- bounds

    private static void span() {
        LoopTiler x = Sheet.told("nest i from -1 to 2,j from 0 to 3,k from i to 4:a[i]=");
        int[] odd = {0, 7, -1000000, 1000000, 1000001, -1000001, LOW, HIGH};
        for (int y : odd) {
            due("P18: no level is ahead", x.span(0, 0, y, y, 0), -1);
            due("P18: no level is ahead", x.span(0, 0, y, y, 1), 2);
            due("P18: one level is ahead", x.span(0, 1, 2, y, 0), 0);
            due("P18: one level is ahead", x.span(0, 1, 2, y, 1), 3);
        }
        due("P18: two levels are ahead", x.span(0, 2, -1, 3, 0), -1);
        due("P18: two levels are ahead", x.span(0, 2, 2, 0, 0), 2);
        due("P18: two levels are ahead", x.span(0, 2, 2, 0, 1), 4);
        for (int y : new int[] {3, -2, -1000000, 1000000, 1000001, -1000001, LOW, HIGH, HIGH - 1, 1 << 30}) {
            due("P18: y0 is not there", x.span(0, 1, y, 0, 0), NOWHERE);
            due("P18: y0 is not there", x.span(0, 2, y, 0, 1), NOWHERE);
        }
        for (int y : new int[] {4, -1, -1000000, 1000000, 1000001, -1000001, LOW, HIGH, 1 << 30}) {
            due("P18: y1 is not there", x.span(0, 2, 0, y, 0), NOWHERE);
        }
        for (int what : new int[] {-1, 2, LOW, HIGH}) {
            due("P18: what " + what, x.span(0, 0, 0, 0, what), NOWHERE);
        }
        for (int depth = 1; depth <= 3; depth++) {
            x = Sheet.told(DEEP[depth - 1]);
            for (int level : new int[] {-1, depth, 3, LOW, HIGH}) {
                due("P18: level " + level, x.span(0, level, 0, 0, 0), NOWHERE);
            }
        }
        x = Sheet.told(EMPTY[0]);
        due("P18: empty", x.span(0, 0, 0, 0, 0), NOWHERE);
        due("P18: empty", x.span(0, 0, 0, 0, 1), NOWHERE);
        x = Sheet.told("nest i from 5 to 5:a[i]=");
        due("P18: one number", x.span(0, 0, 0, 0, 0), 5);
        due("P18: one number", x.span(0, 0, 0, 0, 1), 5);
        x.turn(0, 0);
        due("P18: one number, below 0", x.span(0, 0, 0, 0, 0), -5);
        due("P18: one number, below 0", x.span(0, 0, 0, 0, 1), -5);
        x.tile(0, 0, 1, 4);
        due("P18: the tile is of no matter", x.span(0, 0, 0, 0, 0), -5);
        // i as told goes through all of its loop, though for some of it j has none
        x = Sheet.told("nest i from 0 to 9,j from 2*i to 7:a[i]=");
        due("P18: as FIRST and LAST let them, all of them", x.span(0, 0, 0, 0, 1), 3);
        due("P18: y0 of which j has none", x.span(0, 1, 4, 0, 0), NOWHERE);
        due("P19: those ahead count what is behind", x.visits(0, 0), 4);
    }

    private static void spanOfRealNumbers() {
        LoopTiler x = Sheet.told(REAL);
        due("T2: no turns", x.nest(0, 1), 0);
        due("T2: i has real numbers, no whole one", x.span(0, 0, 0, 0, 0), NOWHERE);
        due("T2: i has real numbers, no whole one", x.visits(0, 0), 0);
        x.swap(0, 0, 2);
        due("T2: k from a half to 1", x.span(0, 0, 0, 0, 0), 1);
        due("T2: k from a half to 1", x.span(0, 0, 0, 0, 1), 1);
        due("P19: it is visited", x.visits(0, 0), 1);
        due("T2: j is one and a half there", x.span(0, 1, 1, 0, 0), NOWHERE);
        due("P19: nothing behind it is", x.visits(0, 1), 0);
        due("P19: nothing behind it is", x.visits(0, 2), 0);
        x.turn(0, 0);
        due("T2: less k, from -1 to less a half", x.span(0, 0, 0, 0, 0), -1);
        due("T2: less k, from -1 to less a half", x.span(0, 0, 0, 0, 1), -1);
        x.anew(0);
        x.swap(0, 0, 1);
        due("T2: j from 1 to five thirds", x.span(0, 0, 0, 0, 0), 1);
        due("T2: j from 1 to five thirds", x.span(0, 0, 0, 0, 1), 1);
        due("T2: i is a third there", x.span(0, 1, 1, 0, 1), NOWHERE);
        x = Sheet.told("nest i from 0 to 5,j from -5 to 5:a[i]=");
        x.skew(0, 0, 1, 3);
        // Y0 is i and 3 j, Y1 is j
        due("T2: least, rounded up below 0", x.span(0, 1, -10, 0, 0), -5);
        due("T2: greatest, rounded down below 0", x.span(0, 1, -10, 0, 1), -4);
        due("T2: least, rounded up above 0", x.span(0, 1, 12, 0, 0), 3);
        due("T2: greatest, rounded down above 0", x.span(0, 1, 14, 0, 1), 4);
    }

    private static void visits() {
        for (int depth = 1; depth <= 3; depth++) {
            LoopTiler x = Sheet.told(DEEP[depth - 1]);
            for (int level : new int[] {-1, depth, 3, LOW, HIGH}) {
                due("P19: level " + level, x.visits(0, level), NONE);
            }
            due("P19: the last level visits the turns", x.visits(0, depth - 1), x.nest(0, 1));
            for (int level = 0; level < depth; level++) {
                due("P19: no turns", Sheet.told(EMPTY[depth - 1]).visits(0, level), 0);
            }
        }
        LoopTiler x = Sheet.told(DEEP[2]);
        due("P19: level 0", x.visits(0, 0), 2);
        due("P19: level 1", x.visits(0, 1), 6);
        x.skew(0, 0, 1, 9);
        due("P19: skewed by 9, from 0 to 19", x.visits(0, 0), 20);
        // j has a whole number for 0, 1, 9, 10, 18, 19 alone
        due("P19: rows up to it", x.visits(0, 1), 6);
        due("P19: turns", x.visits(0, 2), 18);
        x.tile(0, 0, 3, 2);
        due("P19: the tile is of no matter", x.visits(0, 0), 20);
        x = Sheet.told("nest i from 5 to 5,j from 0 to 2,k from 0 to 1:a[i]=");
        due("P19: one number at level 0", x.visits(0, 0), 1);
        due("P19: one number at level 0", x.visits(0, 1), 3);
        x = Sheet.told("nest i from 0 to 2,j from i to i,k from 0 to 1:a[i]=");
        due("P19: one number at level 1", x.visits(0, 1), 3);
    }

    private static void at() {
        for (int depth = 1; depth <= 3; depth++) {
            LoopTiler x = Sheet.told(DEEP[depth - 1]);
            int turns = x.nest(0, 1);
            for (int i : new int[] {-1, turns, turns + 1, LOW, HIGH}) {
                sheet.refused("P20: i " + i, changed(depth), y -> Sheet.at(y, 0, i, 0), Sheet.THROWN);
            }
            for (int variable : new int[] {-1, depth, 3, LOW, HIGH}) {
                sheet.refused("P20: variable " + variable, changed(depth), y -> Sheet.at(y, 0, 0, variable), Sheet.THROWN);
            }
            due("P20: the first", Sheet.at(x, 0, 0, depth - 1), 0);
            due("P20: the last", Sheet.at(x, 0, turns - 1, depth - 1), depth == 1 ? 3 : 2);
            due("P20: no turns", Sheet.at(Sheet.told(EMPTY[depth - 1]), 0, 0, 0), Sheet.THROWN);
        }
    }

    private static void place() {
        LoopTiler x = Sheet.told(DEEP[0]);
        due("P21: as far as D", x.place(0, 3, LOW, HIGH), 3);
        for (int i : new int[] {-1, 4, LOW, HIGH}) {
            due("P21: none, i " + i, x.place(0, i, 0, 0), NONE);
        }
        x = Sheet.told("nest i from -2 to 2,j from i to 0:a[i]=");
        due("P21: values below 0", x.place(0, -2, -2, HIGH), 0);
        due("P21: the last", x.place(0, 0, 0, LOW), 5);
        for (int j : new int[] {-2, 1, LOW, HIGH}) {
            due("P21: none, j " + j, x.place(0, -1, j, 0), NONE);
        }
        due("P21: i has no turns", x.place(0, 1, 0, 0), NONE);
        x = Sheet.told(DEEP[2]);
        due("P21: three loops", x.place(0, 1, 2, 2), 17);
        for (int k : new int[] {-1, 3, LOW, HIGH}) {
            due("P21: none, k " + k, x.place(0, 0, 0, k), NONE);
        }
        for (int depth = 1; depth <= 3; depth++) {
            due("P21: no turns", Sheet.told(EMPTY[depth - 1]).place(0, 0, 0, 0), NONE);
            x = changed(depth).get();
            for (int i = 0; i < x.nest(0, 1); i++) {
                int k = depth > 2 ? x.at(0, i, 2) : 9;
                due("P21: as at has it", x.place(0, x.at(0, i, 0), depth > 1 ? x.at(0, i, 1) : 9, k), i);
            }
        }
    }
}

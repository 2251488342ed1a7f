import java.util.NoSuchElementException;

/** Each promise by hand: ordinary calls, the edges that the document names, wrong inputs. */
public final class PromisesTest {
    private static final int NONE = -1;
    private static final int NOWHERE = -1000000;
    private static final int LOW = Integer.MIN_VALUE;
    private static final int HIGH = Integer.MAX_VALUE;
    private static final Sheet sheet = new Sheet();

    /** Two deep, 4 times 3 turns; distances 0 1 (8 pairs) and 1 0 (9 pairs). */
    private static final String GRID = "nest i from 0 to 3,j from 0 to 2:a[i][j]=a[i-1][j]a[i][j-1]";
    /** One distance, 1 -1. */
    private static final String SLANT = "nest i from 0 to 3,j from 0 to 3:a[i][j]=a[i-1][j+1]";
    private static final String CUBE = "nest i from 0 to 2,j from 0 to 2,k from 0 to 2:a[i+j+k]=b[i][j]";

    public static void main(String[] args) {
        newObject();
        feed();
        text();
        nest();
        pairs();
        distance();
        direction();
        swap();
        turn();
        skew();
        tile();
        anew();
        change();
        legal();
        broken();
        carried();
        band();
        span();
        visits();
        at();
        place();
        shift();
        fused();
        both();
        cache();
        misses();
        tileOf();
        best();
        count();
        nowhere();
        sheet.end("PromisesTest");
    }

    private static void due(String call, long got, long want) {
        sheet.due(call, got, want);
    }

    private static void due(String call, boolean got, boolean want) {
        sheet.due(call, got, want);
    }

    private static boolean throwsAt(LoopTiler x, int nest, int i, int variable) {
        try {
            x.at(nest, i, variable);
            return false;
        } catch (NoSuchElementException e) {
            return true;
        }
    }

    private static void newObject() {
        LoopTiler x = new LoopTiler();
        int[] due = {0, 16, 4, 4, 2, 0};
        for (int what = 0; what < 6; what++) {
            due("1: count", x.count(what), due[what]);
        }
        due("1: nest", x.nest(0, 0), NONE);
        due("NONE", LoopTiler.NONE, -1);
        due("NOWHERE", LoopTiler.NOWHERE, -1000000);
    }

    private static void feed() {
        LoopTiler x = new LoopTiler();
        for (int f = 1; f <= 30; f++) {
            due("2: feed", x.feed(0, 0, 0, 0, 0), 20 * f);
        }
        due("2: feed, full", x.feed(0, 0, 0, 0, 0), NONE);
        due("2: count, full", x.count(5), 600);
        due("2: text", x.text(600), -3);
        // a negative number's bytes are 128 and above
        x.feed(0x6e657374, 0x8069, 0, 0, 0);
        due("2: high bytes", x.text(8), -2 - (8 * 4 + 1));
        x.feed(0x206e6573, 0x74ff0000, 0, 0, 0);
        due("2: the highest first", x.text(8), -2 - (8 * 5 + 1));
    }

    private static void text() {
        LoopTiler x = new LoopTiler();
        due("3: too long", x.text(1), NONE);
        due("3: below 0", x.text(-1), NONE);
        due("3: low", x.text(LOW), NONE);
        due("3: empty", x.text(0), -3);
        Sheet.feed(x, GRID);
        due("3: a word ends where the text does", x.text(3), -3);
        Sheet.feed(x, GRID);
        due("3: too long", x.text(81), NONE);
        due("3: below 0", x.text(-1), NONE);
        due("3: the tape stays", x.count(5), 60);
        due("3: text", x.text(59), 1);
        due("3: the tape is empty", x.count(5), 0);
        x.swap(0, 0, 1);
        x.tile(0, 0, 2, 2);
        x.cache(0, 9);
        due("3: fault", Sheet.tell(x, "nest"), -2 - (8 * 4 + 1));
        due("3: all else stays", x.change(0, 0, 1, false), 1);
        due("3: all else stays", x.nest(0, 6), 2);
        due("3: text again", Sheet.tell(x, GRID), 1);
        due("3: change as at first", x.change(0, 0, 1, false), 0);
        due("3: tile as at first", x.nest(0, 6), 0);
        due("3: width stays", x.count(1), 9);
        due("3: two", Sheet.tell(x, SLANT + ";" + CUBE), 2);
        due("3: turns", x.nest(0, 1), 16);
        due("3: turns", x.nest(1, 1), 27);
        due("3: one", Sheet.tell(x, CUBE), 1);
        due("3: none behind it", x.nest(1, 1), NONE);
        due("3: pairs are those of the new text", x.direction(0, 0, 0, 1, 1), 0);
        due("3: pairs are those of the new text", x.direction(0, 0, 1, -1, 1), 12);
    }

    private static void nest() {
        LoopTiler x = Sheet.told("nest i from 0 to 3,j from i to 3:a[i]=b[i]c[j],b[i]=,c[0]=a[1]");
        int[] due = {2, 10, 3, 6, 0, 0, 0};
        for (int what = 0; what < 7; what++) {
            due("4: nest", x.nest(0, what), due[what]);
        }
        x.tile(0, 1, 1, 7);
        due("4: f", x.nest(0, 4), 1);
        due("4: n", x.nest(0, 5), 1);
        due("4: size", x.nest(0, 6), 7);
        due("4: what", x.nest(0, 7), NONE);
        due("4: what", x.nest(0, -1), NONE);
        due("4: nest 1", x.nest(1, 0), NONE);
        due("4: nest -1", x.nest(-1, 0), NONE);
        due("4: nest", x.nest(HIGH, 0), NONE);
    }

    private static void pairs() {
        LoopTiler x = Sheet.told("nest i from 0 to 3:a[0]=a[0]");
        due("5: flow", x.pairs(0, 0), 3);
        due("5: anti is in one turn, or a write stands between", x.pairs(0, 1), 0);
        due("5: output", x.pairs(0, 2), 3);
        due("5: all", x.pairs(0, 3), 6);
        x = Sheet.told("nest i from 0 to 3:b[i]=a[i+1],a[i]=");
        due("5: flow", x.pairs(0, 0), 0);
        due("5: anti", x.pairs(0, 1), 3);
        x = Sheet.told("nest i from 0 to 3:b[i]=a[0]a[0],a[0]=,a[0]=");
        due("5: only the last write of a turn", x.pairs(0, 0), 6);
        due("5: only the first write of a turn", x.pairs(0, 2), 3);
        x = Sheet.told("nest i from 0 to 3:a[i]=a[0][i-1]");
        due("5: one subscript and two are never one", x.pairs(0, 3), 0);
        x = Sheet.told("nest i from 0 to 3:b[i]=a[0]");
        due("5: reads alone are no pair", x.pairs(0, 3), 0);
        due("5: kind", x.pairs(0, 4), NONE);
        due("5: kind", x.pairs(0, -1), NONE);
        due("5: nest", x.pairs(1, 0), NONE);
        due("5: nest", x.pairs(-1, 0), NONE);
        x = Sheet.told("nest i from 1 to 0:a[0]=a[0]");
        due("5: no turns", x.pairs(0, 3), 0);
    }

    private static void distance() {
        LoopTiler x = Sheet.told(GRID);
        for (int what = 0; what < 4; what++) {
            due("6: how many", x.distance(0, -1, what), 2);
        }
        due("6: what", x.distance(0, -1, 4), NOWHERE);
        due("6: what", x.distance(0, -1, -1), NOWHERE);
        due("6: i", x.distance(0, -2, 0), NOWHERE);
        int[] first = {0, 1, 0, 8};
        int[] second = {1, 0, 0, 9};
        for (int what = 0; what < 4; what++) {
            due("6: first", x.distance(0, 0, what), first[what]);
            due("6: second", x.distance(0, 1, what), second[what]);
            due("6: behind", x.distance(0, 2, what), NOWHERE);
        }
        due("6: what", x.distance(0, 0, 4), NOWHERE);
        due("6: nest", x.distance(1, 0, 0), NOWHERE);
        due("6: nest", x.distance(-1, -1, 0), NOWHERE);
        due("6: high", x.distance(0, HIGH, 0), NOWHERE);
        x = Sheet.told(SLANT);
        due("6: below 0", x.distance(0, 0, 1), -1);
    }

    private static void direction() {
        LoopTiler x = Sheet.told(SLANT);
        due("7: how many", x.direction(0, 0, 0, 0, 0), 1);
        due("7: how many, whatever a, b, c", x.direction(0, 7, 7, 7, 0), 1);
        due("7: has it", x.direction(0, 1, -1, 0, 1), 9);
        due("7: behind D", x.direction(0, 1, -1, HIGH, 1), 9);
        due("7: none has it", x.direction(0, 1, 1, 0, 1), 0);
        due("7: a", x.direction(0, 2, -1, 0, 1), NONE);
        due("7: b", x.direction(0, 1, -2, 0, 1), NONE);
        due("7: what", x.direction(0, 1, -1, 0, 2), NONE);
        due("7: what", x.direction(0, 1, -1, 0, -1), NONE);
        due("7: nest", x.direction(1, 1, -1, 0, 1), NONE);
        x = Sheet.told(CUBE);
        due("7: c", x.direction(0, 1, -1, 2, 1), NONE);
    }

    private static void swap() {
        LoopTiler x = Sheet.told(GRID);
        due("8: itself", x.swap(0, 1, 1), false);
        due("8: other", x.swap(0, 0, 2), false);
        due("8: level", x.swap(0, -1, 0), false);
        due("8: nest", x.swap(1, 0, 1), false);
        due("8: stays", x.change(0, 0, 0, false), 1);
        due("8: swap", x.swap(0, 1, 0), true);
        due("8: row 0", x.change(0, 0, 1, false), 1);
        due("8: row 1", x.change(0, 1, 0, false), 1);
        due("8: order", x.at(0, 1, 0), 1);
    }

    private static void turn() {
        LoopTiler x = Sheet.told(GRID);
        due("9: turn", x.turn(0, 1), true);
        due("9: row", x.change(0, 1, 1, false), -1);
        due("9: other row", x.change(0, 0, 0, false), 1);
        due("9: order", x.at(0, 0, 1), 2);
        due("9: level", x.turn(0, 2), false);
        due("9: level", x.turn(0, -1), false);
        due("9: nest", x.turn(1, 0), false);
        due("9: nest", x.turn(LOW, 0), false);
    }

    private static void skew() {
        LoopTiler x = Sheet.told(GRID);
        due("10: f 0", x.skew(0, 0, 1, 0), false);
        due("10: f 10", x.skew(0, 0, 1, 10), false);
        due("10: f -10", x.skew(0, 0, 1, -10), false);
        due("10: f low", x.skew(0, 0, 1, LOW), false);
        due("10: itself", x.skew(0, 1, 1, 1), false);
        due("10: by", x.skew(0, 1, 2, 1), false);
        due("10: level", x.skew(0, 2, 1, 1), false);
        due("10: nest", x.skew(1, 0, 1, 1), false);
        due("10: skew", x.skew(0, 0, 1, 9), true);
        due("10: number", x.change(0, 0, 1, false), 9);
        due("10: refused", x.skew(0, 0, 1, 1), false);
        due("10: refused, nothing changes", x.change(0, 0, 1, false), 9);
        due("10: refused", x.skew(0, 1, 0, -9), false);
        due("10: refused, nothing changes", x.change(0, 1, 0, false), 0);
        due("10: down", x.skew(0, 0, 1, -9), true);
        due("10: number", x.change(0, 0, 1, false), 0);
    }

    private static void tile() {
        LoopTiler x = Sheet.told(GRID);
        due("11: f + n", x.tile(0, 1, 2, 2), false);
        due("11: f", x.tile(0, -1, 1, 2), false);
        due("11: f", x.tile(0, 2, 1, 2), false);
        due("11: n", x.tile(0, 0, -1, 2), false);
        due("11: n", x.tile(0, 0, HIGH, 2), false);
        due("11: n", x.tile(0, 1, HIGH, 2), false);
        due("11: size 0", x.tile(0, 0, 1, 0), false);
        due("11: size 17", x.tile(0, 0, 1, 17), false);
        due("11: nest", x.tile(1, 0, 1, 1), false);
        due("11: nest, n 0", x.tile(1, 0, 0, 1), false);
        due("11: size 16", x.tile(0, 0, 2, 16), true);
        due("11: size 16", x.nest(0, 6), 16);
        due("11: size 1", x.tile(0, 1, 1, 1), true);
        due("11: none", x.tile(0, 99, 0, -99), true);
        due("11: f 0", x.nest(0, 4), 0);
        due("11: size 0", x.nest(0, 6), 0);
        x.tile(0, 1, 1, 2);
        // 0 0, 0 1 | 0 2 | 1 0, 1 1 | ..: a level ahead of the tile stays alike in it
        due("11: tiles", x.misses(0, 4), 8);
        x.tile(0, 0, 2, 2);
        // 0 0, 0 1, 1 0, 1 1, then 0 2
        due("11: order", x.place(0, 1, 0, 0), 2);
        due("11: order", x.place(0, 0, 2, 0), 4);
        x.turn(0, 0);
        // downwards: -3 and -4 are of one tile, -1 and -2, then 0
        due("11: downwards", x.place(0, 0, 0, 0), 9);
    }

    private static void anew() {
        LoopTiler x = Sheet.told(GRID + ";" + GRID);
        x.swap(0, 0, 1);
        x.swap(1, 0, 1);
        x.tile(0, 0, 2, 2);
        due("12: anew", x.anew(0), true);
        due("12: change", x.change(0, 0, 0, false), 1);
        due("12: tile", x.nest(0, 5), 0);
        due("12: the other stays", x.change(1, 0, 0, false), 0);
        due("12: nest", x.anew(2), false);
        due("12: nest", x.anew(-1), false);
    }

    private static void change() {
        LoopTiler x = Sheet.told(CUBE);
        x.skew(0, 1, 0, 2);
        x.skew(0, 2, 1, 3);
        x.swap(0, 0, 2);
        // rows: 6 3 1, 2 1 0, 1 0 0; back: i is Y2, j is Y1 - 2 Y2, k is Y0 - 3 Y1
        int[] rows = {6, 3, 1, 2, 1, 0, 1, 0, 0};
        int[] back = {0, 0, 1, 0, 1, -2, 1, -3, 0};
        for (int i = 0; i < 9; i++) {
            due("13: change", x.change(0, i / 3, i % 3, false), rows[i]);
            due("13: back", x.change(0, i / 3, i % 3, true), back[i]);
        }
        due("13: row", x.change(0, 3, 0, false), NOWHERE);
        due("13: row", x.change(0, -1, 0, true), NOWHERE);
        due("13: place", x.change(0, 0, 3, true), NOWHERE);
        due("13: place", x.change(0, 0, -1, false), NOWHERE);
        due("13: nest", x.change(1, 0, 0, false), NOWHERE);
        due("13: behind D", Sheet.told(GRID).change(0, 2, 2, false), NOWHERE);
    }

    private static void legal() {
        LoopTiler x = Sheet.told(SLANT);
        due("14: legal", x.legal(0), 1);
        x.swap(0, 0, 1);
        due("14: swapped", x.legal(0), 0);
        x.anew(0);
        x.tile(0, 0, 2, 2);
        due("14: tiled", x.legal(0), 0);
        x.tile(0, 0, 2, 1);
        due("14: tiles of 1", x.legal(0), 1);
        x.skew(0, 1, 0, 1);
        x.tile(0, 0, 2, 2);
        due("14: skewed, tiled", x.legal(0), 1);
        due("14: nest", x.legal(1), NONE);
        due("14: nest", x.legal(-1), NONE);
    }

    private static void broken() {
        LoopTiler x = Sheet.told(SLANT);
        due("15: none", x.broken(0, 0), 0);
        for (int what = 1; what < 4; what++) {
            due("15: all are kept", x.broken(0, what), NOWHERE);
        }
        x.swap(0, 0, 1);
        int[] due = {9, 1, -1, 0};
        for (int what = 0; what < 4; what++) {
            due("15: broken", x.broken(0, what), due[what]);
        }
        due("15: what", x.broken(0, 4), NOWHERE);
        due("15: what", x.broken(0, -1), NOWHERE);
        due("15: nest", x.broken(1, 0), NOWHERE);
        x = Sheet.told(GRID);
        x.turn(0, 0);
        x.turn(0, 1);
        due("15: the least", x.broken(0, 1), 0);
        due("15: the least", x.broken(0, 2), 1);
        due("15: all", x.broken(0, 0), 17);
    }

    private static void carried() {
        LoopTiler x = Sheet.told(GRID);
        due("16: 0", x.carried(0, 0), 9);
        due("16: 1", x.carried(0, 1), 8);
        due("16: behind", x.carried(0, 2), NONE);
        due("16: below", x.carried(0, -1), NONE);
        due("16: nest", x.carried(1, 0), NONE);
        x.skew(0, 0, 1, 1);
        due("16: skewed", x.carried(0, 0), 17);
        due("16: side by side", x.carried(0, 1), 0);
        x.anew(0);
        x.tile(0, 0, 2, 2);
        int[] due = {3, 4, 6, 4};
        for (int place = 0; place < 4; place++) {
            due("16: tiled " + place, x.carried(0, place), due[place]);
        }
        due("16: behind", x.carried(0, 4), NONE);
        x.turn(0, 0);
        due("16: broken ones, too", x.carried(0, 0) + x.carried(0, 2), 9);
    }

    private static void band() {
        LoopTiler x = Sheet.told(SLANT);
        due("17: slanted", x.band(0, 0), 1);
        due("17: carried ahead of it", x.band(0, 1), 1);
        x.skew(0, 1, 0, 1);
        due("17: skewed", x.band(0, 0), 2);
        x.turn(0, 0);
        due("17: none", x.band(0, 0), 0);
        due("17: level", x.band(0, 2), NONE);
        due("17: level", x.band(0, -1), NONE);
        due("17: nest", x.band(1, 0), NONE);
        x = Sheet.told("nest i from 0 to 2,j from 0 to 2,k from 0 to 2:a[i][j]=");
        due("17: all", x.band(0, 0), 3);
        x.turn(0, 2);
        due("17: up to it", x.band(0, 0), 2);
        due("17: from it", x.band(0, 2), 0);
    }

    private static void span() {
        LoopTiler x = Sheet.told("nest i from 0 to 5,j from 0 to 5:a[i]=");
        due("18: least", x.span(0, 0, LOW, HIGH, 0), 0);
        due("18: greatest", x.span(0, 0, LOW, HIGH, 1), 5);
        x.skew(0, 0, 1, 2);
        due("18: skewed", x.span(0, 0, 0, 0, 1), 15);
        x.anew(0);
        x.skew(0, 0, 1, 2);
        // Y1 is j: of i + 2 j = 3 it goes from 0 to 1.5
        due("18: least", x.span(0, 1, 3, 0, 0), 0);
        due("18: not whole", x.span(0, 1, 3, 0, 1), 1);
        due("18: not whole", x.span(0, 1, 14, 0, 0), 5);
        due("18: empty", x.span(0, 1, 16, 0, 0), NOWHERE);
        due("18: empty", x.span(0, 1, 1000000, 0, 0), NOWHERE);
        due("18: beyond", x.span(0, 1, 1000001, 0, 0), NOWHERE);
        due("18: y1 is of no matter", x.span(0, 1, 3, HIGH, 1), 1);
        due("18: what", x.span(0, 1, 3, 0, 2), NOWHERE);
        due("18: what", x.span(0, 1, 3, 0, -1), NOWHERE);
        due("18: level", x.span(0, 2, 3, 0, 0), NOWHERE);
        due("18: level", x.span(0, -1, 3, 0, 0), NOWHERE);
        due("18: nest", x.span(1, 0, 3, 0, 0), NOWHERE);
        x = Sheet.told("nest i from 0 to 1,j from 3*i to 2-i,k from 2*j to 2*j:a[i]=");
        // i and j meet at one half, one and a half: real numbers alone go there
        due("18: real, empty turns", x.nest(0, 1), 3);
        x.swap(0, 0, 1);
        due("18: j from 0", x.span(0, 0, 0, 0, 0), 0);
        due("18: j to 2", x.span(0, 0, 0, 0, 1), 2);
        due("18: i of j 1, up to a third", x.span(0, 1, 1, 0, 1), 0);
        due("18: k of j 1, i 0", x.span(0, 2, 1, 0, 0), 2);
        due("18: k of j 1, i 1", x.span(0, 2, 1, 1, 0), NOWHERE);
        x.swap(0, 0, 2);
        due("18: k to 4", x.span(0, 0, 0, 0, 1), 4);
        due("18: i of k 3: j is one and a half", x.span(0, 1, 3, 0, 1), 0);
        due("18: j of k 3, i 0 is no whole number", x.span(0, 2, 3, 0, 1), NOWHERE);
        due("18: y1 beyond", x.span(0, 2, 2, -1000001, 1), NOWHERE);
        x = Sheet.told("nest i from 1 to 0:a[i]=");
        due("18: empty", x.span(0, 0, 0, 0, 0), NOWHERE);
    }

    private static void visits() {
        LoopTiler x = Sheet.told("nest i from 0 to 1,j from 3*i to 2-i,k from 2*j to 2*j:a[i]=");
        x.swap(0, 0, 2);
        x.swap(0, 1, 2);
        // levels k, i, j: k from 0 to 4, i is 0 each time, j is whole but for k 1 and 3
        due("19: level 0", x.visits(0, 0), 5);
        due("19: level 1", x.visits(0, 1), 5);
        due("19: level 2", x.visits(0, 2), 3);
        due("19: level", x.visits(0, 3), NONE);
        due("19: level", x.visits(0, -1), NONE);
        due("19: nest", x.visits(1, 0), NONE);
        x = Sheet.told("nest i from 1 to 0,j from 0 to 1,k from 0 to 1:a[i]=");
        for (int level = 0; level < 3; level++) {
            due("19: empty", x.visits(0, level), 0);
        }
    }

    private static void at() {
        LoopTiler x = Sheet.told(GRID);
        due("20: at", x.at(0, 4, 0), 1);
        due("20: at", x.at(0, 4, 1), 1);
        due("20: last", x.at(0, 11, 1), 2);
        x.turn(0, 0);
        due("20: turned", x.at(0, 0, 0), 3);
        due("20: i", throwsAt(x, 0, 12, 0), true);
        due("20: i", throwsAt(x, 0, -1, 0), true);
        due("20: variable", throwsAt(x, 0, 0, 2), true);
        due("20: variable", throwsAt(x, 0, 0, -1), true);
        due("20: nest", throwsAt(x, 1, 0, 0), true);
        due("20: new", throwsAt(new LoopTiler(), 0, 0, 0), true);
        due("20: fine", throwsAt(x, 0, 11, 1), false);
    }

    private static void place() {
        LoopTiler x = Sheet.told(GRID);
        due("21: place", x.place(0, 1, 1, 0), 4);
        due("21: as far as D", x.place(0, 1, 1, HIGH), 4);
        due("21: none", x.place(0, 4, 0, 0), NONE);
        due("21: none", x.place(0, 0, LOW, 0), NONE);
        due("21: nest", x.place(1, 0, 0, 0), NONE);
        x.swap(0, 0, 1);
        due("21: swapped", x.place(0, 1, 1, 0), 5);
        due("21: k", Sheet.told(CUBE).place(0, 0, 0, 3), NONE);
    }

    private static void shift() {
        String first = "nest i from 0 to 4,j from 0 to 4:a[i][j]=";
        LoopTiler x = Sheet.told(first + ";nest i from 0 to 4,j from 0 to 4:b[i]=a[i][j+2]a[i-1][j]");
        due("22: first number", x.shift(0), 0);
        due("22: second number", x.shift(1), 2);
        due("22: behind D", x.shift(2), NOWHERE);
        due("22: which", x.shift(-1), NOWHERE);
        x.swap(0, 0, 1);
        x.tile(1, 0, 2, 3);
        due("22: changes are of no matter", x.shift(1), 2);
        x = Sheet.told(first + ";nest i from 0 to 4,j from 0 to 4:b[i]=a[i-1][j+2]");
        due("22: below 0", x.shift(0), -1);
        due("22: below 0", x.shift(1), 2);
        x = Sheet.told(first + ";nest i from 0 to 4,j from 0 to 4:b[i]=c[i]");
        due("22: no two", x.shift(0), 0);
        due("22: no two", x.shift(1), 0);
        x = Sheet.told(first + ";nest i from 0 to 4:b[i]=a[i][0]");
        due("22: unlike D", x.shift(0), NOWHERE);
        due("22: one nest", Sheet.told(first).shift(0), NOWHERE);
        due("22: none", new LoopTiler().shift(0), NOWHERE);
        x = Sheet.told("nest i from 99+99+99 to 99+99+99:a[0]=;nest i from -99-99-99 to -99-99-99:b[0]=a[0]");
        due("22: far", x.shift(0), 594);
        x = Sheet.told("nest i from 0 to 2:b[0]=a[i];nest i from 0 to 2:a[i-1]=");
        due("22: read, then written", x.shift(0), -1);
        x = Sheet.told("nest i from 0 to 2:b[i]=a[i];nest i from 0 to 2:c[i]=a[i+2]");
        due("22: both read", x.shift(0), 0);
    }

    private static void fused() {
        LoopTiler x = Sheet.told("nest i from 0 to 4,j from 0 to 4:a[i][j]="
            + ";nest i from 0 to 4,j from 0 to 4:b[i]=a[i][j+2]");
        due("23: least", x.fused(0, 2, 0), 1);
        due("23: below it", x.fused(0, 1, 0), 0);
        due("23: first number counts first", x.fused(1, -99, 0), 1);
        due("23: first number counts first", x.fused(-1, 99, 0), 0);
        due("23: as far as D", x.fused(0, 2, HIGH), 1);
        due("23: i", x.fused(100, 0, 0), NONE);
        due("23: j", x.fused(0, -100, 0), NONE);
        due("23: one nest", Sheet.told(GRID).fused(0, 0, 0), NONE);
        due("23: unlike D", Sheet.told(GRID + ";" + CUBE).fused(0, 0, 0), NONE);
        due("23: k", Sheet.told(CUBE + ";" + CUBE).fused(0, 0, 100), NONE);
        due("23: none", new LoopTiler().fused(0, 0, 0), NONE);
    }

    private static void both() {
        LoopTiler x = Sheet.told("nest i from 0 to 7:a[i]=;nest i from 0 to 7:b[i]=a[i]");
        x.cache(2, 1);
        x.cache(3, 2);
        // as told: two lines of a, two of b, and again the second of a, that b has put out
        due("24: as told", x.both(0, 0, 0, 1), 5);
        due("24: fused", x.both(0, 0, 0, 0), 4);
        due("24: far apart", x.both(99, 0, 0, 0), 5);
        due("24: the second nest ahead", x.both(-99, 0, 0, 0), 6);
        due("24: i", x.both(100, 0, 0, 0), NONE);
        due("24: i", x.both(-100, 0, 0, 0), NONE);
        due("24: what", x.both(0, 0, 0, 2), NONE);
        due("24: what", x.both(0, 0, 0, -1), NONE);
        due("24: as far as D", x.both(0, 100, 100, 0), 4);
        x.turn(0, 0);
        due("24: changes are of no matter", x.both(0, 0, 0, 0), 4);
        due("24: one nest", Sheet.told(GRID).both(0, 0, 0, 1), NONE);
        due("24: unlike D", Sheet.told(GRID + ";" + CUBE).both(0, 0, 0, 0), NONE);
        due("24: none", new LoopTiler().both(0, 0, 0, 0), NONE);
    }

    private static void cache() {
        LoopTiler x = new LoopTiler();
        int[] first = {16, 4, 4, 2};
        int[] most = {64, 16, 16, 8};
        for (int what = 0; what < 4; what++) {
            due("25: 0", x.cache(what, 0), NONE);
            due("25: beyond", x.cache(what, most[what] + 1), NONE);
            due("25: low", x.cache(what, LOW), NONE);
            due("25: most", x.cache(what, most[what]), first[what]);
            due("25: 1", x.cache(what, 1), most[what]);
            due("25: told", x.count(what + 1), 1);
        }
        due("25: what", x.cache(4, 1), NONE);
        due("25: what", x.cache(-1, 1), NONE);
    }

    private static void misses() {
        LoopTiler x = Sheet.told("nest i from 0 to 3,j from 0 to 3:a[i][j]=a[j][i]");
        x.tile(0, 0, 2, 2);
        // all four lines are of set 0, of two ways
        due("26: misses", x.misses(0, 0), 15);
        due("26: cold", x.misses(0, 1), 4);
        due("26: touches", x.misses(0, 2), 32);
        // lines 0 1 | 0 1 2 3 | 0 1 2 3 | 2 3
        due("26: reckoned", x.misses(0, 3), 4);
        due("26: tiles", x.misses(0, 4), 4);
        due("26: greatest", x.misses(0, 5), 4);
        x.cache(2, 1);
        x.cache(3, 1);
        due("26: one line", x.misses(0, 0), 24);
        x.cache(1, 16);
        due("26: long lines", x.misses(0, 1), 4);
        x.cache(0, 1);
        due("26: small width", x.misses(0, 1), 1);
        due("26: what", x.misses(0, 6), NONE);
        due("26: what", x.misses(0, -1), NONE);
        due("26: nest", x.misses(1, 0), NONE);
        x = Sheet.told("nest i from 1 to 0:a[i]=");
        for (int what = 0; what < 6; what++) {
            due("26: no turns", x.misses(0, what), 0);
        }
        x = Sheet.told("nest i from -4 to 3:a[i]=");
        due("26: lines below 0", x.misses(0, 1), 2);
        x = Sheet.told("nest i from 0 to 3:a[i]=a[0][i]");
        due("26: two elements, one address", x.misses(0, 0), 1);
    }

    private static void tileOf() {
        LoopTiler x = Sheet.told("nest i from 0 to 3,j from 0 to 3:a[i][j]=a[j][i]");
        due("27: all in one", x.tileOf(0, 0, 1), 16);
        due("27: none behind", x.tileOf(0, 1, 1), NONE);
        x.tile(0, 0, 2, 2);
        int[] lines = {2, 4, 4, 2};
        int[] again = {0, 2, 4, 2};
        for (int i = 0; i < 4; i++) {
            due("27: lines", x.tileOf(0, i, 0), lines[i]);
            due("27: turns", x.tileOf(0, i, 1), 4);
            due("27: again", x.tileOf(0, i, 2), again[i]);
        }
        due("27: i", x.tileOf(0, 4, 0), NONE);
        due("27: i", x.tileOf(0, -1, 0), NONE);
        due("27: what", x.tileOf(0, 0, 3), NONE);
        due("27: what", x.tileOf(0, 0, -1), NONE);
        due("27: nest", x.tileOf(1, 0, 0), NONE);
        due("27: no turns", Sheet.told("nest i from 1 to 0:a[i]=").tileOf(0, 0, 0), NONE);
    }

    private static void best() {
        LoopTiler x = Sheet.told("nest i from 0 to 15,j from 0 to 15:a[i][j]=b[j][i]");
        x.cache(2, 1);
        x.cache(3, 8);
        due("28: size", x.best(0, 0, 2, 0), 4);
        due("28: misses", x.best(0, 0, 2, 1), 128);
        x.tile(0, 0, 2, 4);
        due("28: as tiled", x.misses(0, 0), 128);
        x.tile(0, 1, 1, 3);
        x.best(0, 0, 2, 0);
        due("28: the tile stays", x.nest(0, 4), 1);
        due("28: the tile stays", x.nest(0, 6), 3);
        due("28: n 0", x.best(0, 0, 0, 0), NONE);
        due("28: n", x.best(0, 1, 2, 0), NONE);
        due("28: f", x.best(0, -1, 1, 0), NONE);
        due("28: f", x.best(0, 2, 1, 0), NONE);
        due("28: what", x.best(0, 0, 1, 2), NONE);
        due("28: what", x.best(0, 0, 1, -1), NONE);
        due("28: nest", x.best(1, 0, 1, 0), NONE);
        x = Sheet.told("nest i from 0 to 15,j from 0 to 30:a[j]=");
        x.cache(1, 1);
        x.cache(2, 16);
        x.cache(3, 1);
        due("28: the greatest size", x.best(0, 0, 2, 0), 16);
        due("28: each element once", x.best(0, 0, 2, 1), 31);
        x = Sheet.told(SLANT);
        due("28: of several the least, legal or not", x.best(0, 0, 2, 0), 1);
    }

    private static void count() {
        LoopTiler x = Sheet.told(GRID + ";" + GRID);
        due("29: nests", x.count(0), 2);
        x.feed(0, 0, 0, 0, 0);
        due("29: bytes", x.count(5), 20);
        due("29: what", x.count(6), NONE);
        due("29: what", x.count(-1), NONE);
    }

    /** No call on an object without nests answers anything but that there are none. */
    private static void nowhere() {
        LoopTiler x = new LoopTiler();
        due("none: pairs", x.pairs(0, 3), NONE);
        due("none: distance", x.distance(0, -1, 0), NOWHERE);
        due("none: direction", x.direction(0, 0, 0, 0, 0), NONE);
        due("none: swap", x.swap(0, 0, 1), false);
        due("none: turn", x.turn(0, 0), false);
        due("none: skew", x.skew(0, 0, 1, 1), false);
        due("none: tile", x.tile(0, 0, 0, 0), false);
        due("none: anew", x.anew(0), false);
        due("none: change", x.change(0, 0, 0, true), NOWHERE);
        due("none: legal", x.legal(0), NONE);
        due("none: broken", x.broken(0, 0), NOWHERE);
        due("none: carried", x.carried(0, 0), NONE);
        due("none: band", x.band(0, 0), NONE);
        due("none: span", x.span(0, 0, 0, 0, 0), NOWHERE);
        due("none: visits", x.visits(0, 0), NONE);
        due("none: place", x.place(0, 0, 0, 0), NONE);
        due("none: misses", x.misses(0, 0), NONE);
        due("none: tileOf", x.tileOf(0, 0, 0), NONE);
        due("none: best", x.best(0, 0, 1, 0), NONE);
    }
}

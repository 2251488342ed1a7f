import java.util.function.Supplier;

/**
 * Boundary cases of promises 1 to 4 and of the first part of 'Terms', sentence by sentence
 * (those that are faults of a text stand in FaultsTest).
 */
public final class TextBoundsTest {
    private static final int NONE = -1;
    private static final int NOWHERE = -1000000;
    private static final int LOW = Integer.MIN_VALUE;
    private static final int HIGH = Integer.MAX_VALUE;
    private static final Sheet sheet = new Sheet();

    private static final String LINE = "nest i from 0 to 3:a[i]=a[i-1]";
    private static final String PLANE = "nest i from 0 to 3,j from i to 3:a[i][j]=a[i-1][j]b[j],b[i]=";

    public static void main(String[] args) {
        newObject();
        noSuchNest();
        feedUpToFull();
        feedBytes();
        textOfNothing();
        textRefused();
        textOfAPart();
        textWithAFault();
        textAnew();
        textBehindAFault();
        textOfSixHundred();
        nestAsked();
        loops();
        bounds();
        turnsAtMost();
        statementsAndReads();
        subscripts();
        touchesInOrder();
        blanks();
        sheet.end("TextBoundsTest");
    }

    private static void due(String call, long got, long want) {
        sheet.due(call, got, want);
    }

    private static LoopTiler changed() {
        LoopTiler x = Sheet.told(PLANE + ";" + LINE);
        x.skew(0, 0, 1, 2);
        x.tile(0, 1, 1, 3);
        x.turn(1, 0);
        x.cache(0, 9);
        x.cache(3, 1);
        return x;
    }

    private static void newObject() {
        LoopTiler x = new LoopTiler();
        due("P1: no nests", x.count(0), 0);
        due("T3: WIDTH is 16 at first", x.count(1), 16);
        due("T3: L is 4 at first", x.count(2), 4);
        due("T3: SETS are 4 at first", x.count(3), 4);
        due("T3: WAYS are 2 at first", x.count(4), 2);
        due("P1: nothing is on the tape", x.count(5), 0);
        due("P1: nothing is on the tape", x.text(1), NONE);
        due("P1: no two nests", x.shift(0), NOWHERE);
        due("P1: no two nests", x.fused(0, 0, 0), NONE);
        due("P1: no two nests", x.both(0, 0, 0, 0), NONE);
        due("P1: no two nests", x.both(0, 0, 0, 1), NONE);
    }

    /** "none such", "no such NEST": of each call that is told a nest, with none, one, two of them. */
    private static void noSuchNest() {
        int[][] such = {{0, 1, 2, -1, LOW, HIGH}, {1, 2, -1, LOW, HIGH}, {2, 3, -1, LOW, HIGH}};
        for (int nests = 0; nests < 3; nests++) {
            for (int nest : such[nests]) {
                Supplier<LoopTiler> made = nests == 0 ? LoopTiler::new
                    : nests == 1 ? () -> Sheet.told(LINE) : TextBoundsTest::changed;
                noSuchNest(nests + " nests, nest " + nest + ": ", made, nest);
            }
        }
        Supplier<LoopTiler> oneOfTwo = () -> {
            LoopTiler x = changed();
            Sheet.tell(x, LINE);
            return x;
        };
        noSuchNest("one nest where two were, nest 1: ", oneOfTwo, 1);
    }

    private static void noSuchNest(String name, Supplier<LoopTiler> made, int n) {
        for (int what = 0; what < 7; what++) {
            int w = what;
            due("P4 " + name, made.get().nest(n, w), NONE);
        }
        sheet.refused("P5 " + name, made, x -> x.pairs(n, 3), NONE);
        sheet.refused("P6 " + name, made, x -> x.distance(n, 0, 0), NOWHERE);
        sheet.refused("P6 " + name, made, x -> x.distance(n, NONE, 0), NOWHERE);
        sheet.refused("P7 " + name, made, x -> x.direction(n, 0, 0, 0, 0), NONE);
        sheet.refused("P7 " + name, made, x -> x.direction(n, 1, 0, 0, 1), NONE);
        sheet.refused("P8 " + name, made, x -> x.swap(n, 0, 1) ? 1 : 0, 0);
        sheet.refused("P9 " + name, made, x -> x.turn(n, 0) ? 1 : 0, 0);
        sheet.refused("P10 " + name, made, x -> x.skew(n, 0, 1, 1) ? 1 : 0, 0);
        sheet.refused("P11 " + name, made, x -> x.tile(n, 0, 1, 2) ? 1 : 0, 0);
        sheet.refused("P11 " + name, made, x -> x.tile(n, 0, 0, 0) ? 1 : 0, 0);
        sheet.refused("P12 " + name, made, x -> x.anew(n) ? 1 : 0, 0);
        sheet.refused("P13 " + name, made, x -> x.change(n, 0, 0, false), NOWHERE);
        sheet.refused("P13 " + name, made, x -> x.change(n, 0, 0, true), NOWHERE);
        sheet.refused("P14 " + name, made, x -> x.legal(n), NONE);
        sheet.refused("P15 " + name, made, x -> x.broken(n, 0), NOWHERE);
        sheet.refused("P16 " + name, made, x -> x.carried(n, 0), NONE);
        sheet.refused("P17 " + name, made, x -> x.band(n, 0), NONE);
        sheet.refused("P18 " + name, made, x -> x.span(n, 0, 0, 0, 0), NOWHERE);
        sheet.refused("P19 " + name, made, x -> x.visits(n, 0), NONE);
        sheet.refused("P20 " + name, made, x -> Sheet.at(x, n, 0, 0), Sheet.THROWN);
        sheet.refused("P21 " + name, made, x -> x.place(n, 0, 0, 0), NONE);
        sheet.refused("P26 " + name, made, x -> x.misses(n, 2), NONE);
        sheet.refused("P27 " + name, made, x -> x.tileOf(n, 0, 1), NONE);
        sheet.refused("P28 " + name, made, x -> x.best(n, 0, 1, 0), NONE);
    }

    private static void feedUpToFull() {
        LoopTiler x = new LoopTiler();
        Sheet.feed(x, LINE);
        for (int has = 60; has <= 600; has += 20) {
            due("P2: how many it has", x.feed(0x20202020, 0x20202020, 0x20202020, 0x20202020, 0x20202020), has);
        }
        due("P2: it would have 620", x.feed(0x40404040, 0x40404040, 0x40404040, 0x40404040, 0x40404040), NONE);
        due("P2: and none come", x.count(5), 600);
        due("P2: it would have 620, again", x.feed(0, 0, 0, 0, 0), NONE);
        due("P3: has not so many", x.text(601), NONE);
        due("P2: none of them has come, or in another's place", x.text(600), 1);
        due("P3: it is empty then", x.feed(0, 0, 0, 0, 0), 20);
    }

    /** Each of the twenty places has a byte of its own: one that begins no token is found there. */
    private static void feedBytes() {
        for (int place = 0; place < 20; place++) {
            for (int b = 0; b < 256; b += 255) {
                int[] words = new int[5];
                for (int i = 0; i < 20; i++) {
                    words[i / 4] = words[i / 4] << 8 | (i == place ? b : ' ');
                }
                LoopTiler x = new LoopTiler();
                x.feed(words[0], words[1], words[2], words[3], words[4]);
                due("P2: the highest first, place " + place, x.text(20), -2 - (8 * place + 1));
            }
        }
        LoopTiler x = new LoopTiler();
        x.feed(-1, LOW, HIGH, 0, 0);
        due("P2: a number below 0", x.text(20), -3);
    }

    private static void textOfNothing() {
        LoopTiler x = new LoopTiler();
        due("P3: n 0, nothing on the tape", x.text(0), -3);
        Sheet.feed(x, LINE);
        due("P3: n 0: no byte of the tape is of the text", x.text(0), -3);
        due("P3: it is empty then", x.count(5), 0);
        due("P3: no nest has come", x.count(0), 0);
    }

    private static void textRefused() {
        Supplier<LoopTiler> fed = () -> {
            LoopTiler x = changed();
            Sheet.feed(x, LINE);
            return x;
        };
        for (int n : new int[] {41, 60, 601, HIGH, -1, -40, LOW}) {
            sheet.refused("P3: text(" + n + ") of 40 bytes", fed, x -> x.text(n), NONE);
            LoopTiler x = fed.get();
            x.text(n);
            due("P3: the tape stays", x.count(5), 40);
            due("P3: the tape stays", x.text(LINE.length()), 1);
        }
        due("P3: all that it has", fed.get().text(40), 1);
    }

    private static void textOfAPart() {
        LoopTiler x = new LoopTiler();
        Sheet.feed(x, LINE + "@@@@@@@@");
        due("P3: bytes behind n mean nothing", x.text(LINE.length()), 1);
        due("P3: it is empty then, all of it", x.count(5), 0);
        String cut = "nest i from 0 to 10*i:a[i]=";
        Sheet.feed(x, cut);
        due("P3: a * behind n is none", x.text(19), -2 - (8 * 19 + 1));
        Sheet.feed(x, cut);
        due("P3: a * ahead of n is one", x.text(20), -2 - (8 * 17 + 2));
        Sheet.feed(x, cut);
        due("P3: a second digit behind n is none", x.text(18), -2 - (8 * 18 + 1));
        Sheet.feed(x, cut);
        due("P3: a word ends at n", x.text(3), -2 - 1);
        Sheet.feed(x, cut);
        due("P3: a word ends at n", x.text(10), -2 - (8 * 7 + 1));
        Sheet.feed(x, cut);
        due("P3: a word ends at n", x.text(4), -2 - (8 * 4 + 1));
    }

    private static void textWithAFault() {
        String[] texts = {"", "@", "nest i from 0 to i:a[i]=", LINE + ";" + LINE + ";",
            LINE + ";nest i from 0 to 99,j from 0 to 5:a[i]="};
        int[] due = {-3, -3, -2 - (8 * 17 + 2), -2 - (8 * 61 + 3), -2 - (8 * 31 + 4)};
        for (int t = 0; t < texts.length; t++) {
            String text = texts[t];
            sheet.refused("P3: a fault, all else stays: " + text, TextBoundsTest::changed,
                x -> Sheet.tell(x, text), due[t]);
            LoopTiler x = changed();
            Sheet.tell(x, text);
            due("P3: the tape is empty behind a fault, too", x.count(5), 0);
        }
    }

    private static void textAnew() {
        LoopTiler x = changed();
        due("P3: how many nests", Sheet.tell(x, PLANE + ";" + LINE), 2);
        for (int i = 0; i < 4; i++) {
            due("P3: the change is as at first", x.change(0, i / 2, i % 2, false), i % 3 == 0 ? 1 : 0);
        }
        due("P3: the change is as at first", x.change(1, 0, 0, false), 1);
        due("P3: the tile is as at first", x.nest(0, 4) + x.nest(0, 5) + x.nest(0, 6), 0);
        due("P3: the order is as at first", x.at(0, 1, 1), 1);
        due("P3: the order is as at first", x.at(1, 0, 0), 0);
        due("P3: WIDTH stays", x.count(1), 9);
        due("P3: the cache stays", x.count(4), 1);
        x = changed();
        due("P3: one nest, where two were", Sheet.tell(x, LINE), 1);
        due("P3: one nest", x.count(0), 1);
        due("P3: no two nests any more", x.shift(0), NOWHERE);
        due("P3: no two nests any more", x.both(0, 0, 0, 1), NONE);
        due("P3: two again", Sheet.tell(x, LINE + ";" + PLANE), 2);
        due("P3: the second one's change is as at first", x.change(1, 1, 1, false), 1);
        due("P3: what was found of the old one is not of the new one", x.pairs(1, 3), 18);
    }

    /** Nothing of a text with a fault, or of one that was, is found of the next one. */
    private static void textBehindAFault() {
        LoopTiler x = new LoopTiler();
        due("P3: the second nest is too large", Sheet.tell(x, LINE + ";nest i from 0 to 99,j from 0 to 5:a[i]="), -2 - (8 * 31 + 4));
        due("P3: one nest behind it", Sheet.tell(x, LINE), 1);
        due("P3: a fault in the second nest", Sheet.tell(x, LINE + ";" + PLANE + "@"), -2 - (8 * (31 + PLANE.length()) + 1));
        due("P3: two nests behind it", Sheet.tell(x, PLANE + ";" + LINE), 2);
        int[][] due = {{18, 6}, {3, 2}};
        for (int nest = 0; nest < 2; nest++) {
            due("P5: of a text", x.pairs(nest, 3), due[nest][0]);
            due("P26: of a text", x.misses(nest, 1), due[nest][1]);
        }
        due("P3: the other way round", Sheet.tell(x, LINE + ";" + PLANE), 2);
        for (int nest = 0; nest < 2; nest++) {
            due("P5: of the next text", x.pairs(nest, 3), due[1 - nest][0]);
            due("P26: of the next text", x.misses(nest, 1), due[1 - nest][1]);
        }
        String large = "nest i from 0 to 9:a[0]=b[0]c[0],b[1]=d[0],c[0]=";
        Sheet.tell(x, large + ";" + large);
        Sheet.tell(x, large + ";" + large);
        due("P3: small behind large ones", Sheet.tell(x, "nest i from 5 to 5:a[0]=;nest i from 0 to 0:b[0]="), 2);
        for (int nest = 0; nest < 2; nest++) {
            due("P5: small behind large ones", x.pairs(nest, 3), 0);
            due("P26: small behind large ones", x.misses(nest, 1), 1);
            due("P26: small behind large ones", x.misses(nest, 0), 1);
            due("P4: small behind large ones", x.nest(nest, 3), 1);
        }
        due("P22: small behind large ones", x.shift(0), 0);
    }

    private static void textOfSixHundred() {
        LoopTiler x = new LoopTiler();
        StringBuilder text = new StringBuilder("nest i from 0 to 3:a[i]=");
        while (text.length() < 599) {
            text.append(text.length() % 2 == 0 ? ' ' : '\n');
        }
        due("T1: 600 bytes", Sheet.tell(x, text + " "), 1);
        due("T1: the last byte is read", Sheet.tell(x, text + "@"), -2 - (8 * 599 + 1));
        due("T1: the last byte is read", Sheet.tell(x, text + ";"), -2 - (8 * 600 + 1));
        String end = "a[i]=b[i]";
        due("T1: a ref that ends at the last byte", Sheet.tell(x, "nest i from 0 to 3:" + " ".repeat(572) + end), 1);
        due("T1: a ref that ends at the last byte", x.nest(0, 3), 2);
        due("T1: words alone", Sheet.tell(x, "a".repeat(600)), -3);
        due("T1: numbers alone", Sheet.tell(x, "1".repeat(600)), -3);
        due("T1: signs alone", Sheet.tell(x, "[".repeat(600)), -3);
        due("T1: blanks alone", Sheet.tell(x, " ".repeat(600)), -2 - (8 * 600 + 1));
    }

    private static void nestAsked() {
        LoopTiler x = Sheet.told(PLANE);
        for (int what : new int[] {-1, 7, 8, LOW, HIGH}) {
            due("P4: what " + what, x.nest(0, what), NONE);
        }
        due("P4: f without a tile", x.nest(0, 4), 0);
        due("P4: n without a tile", x.nest(0, 5), 0);
        due("P4: SIZE without a tile", x.nest(0, 6), 0);
        x.tile(0, 1, 1, 16);
        due("P4: f", x.nest(0, 4), 1);
        due("P4: n", x.nest(0, 5), 1);
        due("P4: SIZE", x.nest(0, 6), 16);
        x.tile(0, 1, 0, 16);
        due("P4: f, the tile is gone", x.nest(0, 4), 0);
        due("P4: n, the tile is gone", x.nest(0, 5), 0);
        due("P4: SIZE, the tile is gone", x.nest(0, 6), 0);
        x = Sheet.told("nest i from 1 to 0:a[i]=");
        due("P4: no turns", x.nest(0, 1), 0);
        due("P4: touches of a turn, though there is none", x.nest(0, 3), 1);
    }

    private static void loops() {
        due("T1: 1 loop", Sheet.told(LINE).nest(0, 0), 1);
        due("T1: 2 loops", Sheet.told(PLANE).nest(0, 0), 2);
        LoopTiler x = Sheet.told("nest i from -1 to 0,j from -1 to 0,k from -1 to 0:a[0]=;" + LINE);
        due("T1: 3 loops", x.nest(0, 0), 3);
        due("T1: 1 loop behind 3", x.nest(1, 0), 1);
        for (int turn = 0; turn < 8; turn++) {
            due("T1: by i", x.at(0, turn, 0), turn / 4 - 1);
            due("T1: then by j", x.at(0, turn, 1), turn / 2 % 2 - 1);
            due("T1: then by k, rising", x.at(0, turn, 2), turn % 2 - 1);
        }
    }

    private static int turns(String text) {
        return Sheet.told(text).nest(0, 1);
    }

    private static void bounds() {
        due("T1: FIRST at least, LAST at most", turns("nest i from -2 to 2:a[i]="), 5);
        due("T1: FIRST is LAST", turns("nest i from 5 to 5:a[i]="), 1);
        due("T1: FIRST is above LAST by 1", turns("nest i from 6 to 5:a[i]="), 0);
        due("T1: FIRST is far above LAST", turns("nest i from 99+99+99+99 to -99-99-99-99:a[i]="), 0);
        due("T1: as they are there", turns("nest i from 0 to 4,j from i to 4-i:a[i]="), 9);
        due("T1: as they are there", turns("nest i from 0 to 2,j from i to 2,k from i+j to 3:a[i]="), 12);
        due("T1: 0 times a variable", turns("nest i from 0 to 2,j from 0*i to 0*i+1:a[i]="), 6);
        due("T1: 9 times a variable", turns("nest i from 1 to 1,j from 9*i to 9*i+2:a[i]="), 3);
        due("T1: a sum of one variable", turns("nest i from 1 to 1,j from i+i+i+i to 5:a[i]="), 2);
        LoopTiler x = Sheet.told("nest i from -99-99-99-99 to -99-99-99-99:a[i]=");
        due("T1: the least number of four terms", x.at(0, 0, 0), -396);
        x = Sheet.told("nest i from 99+99+99+99 to 99+99+99+99:a[i]=");
        due("T1: the greatest number of four terms", x.at(0, 0, 0), 396);
    }

    private static void turnsAtMost() {
        due("T1: 500 turns, one loop", turns("nest i from -99-99-99 to 99+99+4+0:a[i]="), 500);
        due("T1: 500 turns, two loops", turns("nest i from 1 to 5,j from 1 to 99+1:a[i]="), 500);
        due("T1: 500 turns, three loops", turns("nest i from 1 to 5,j from 1 to 10,k from 1 to 10:a[i]="), 500);
        LoopTiler x = Sheet.told("nest i from 1 to 5,j from 1 to 99+1:a[i]=;nest i from 1 to 5,j from 1 to 99+1:a[i]=");
        due("T1: 500 turns of each nest", x.nest(0, 1) + x.nest(1, 1), 1000);
        due("T1: the last of 500", x.at(1, 499, 1), 100);
        due("T1: none behind it", Sheet.at(x, 1, 500, 1), Sheet.THROWN);
        due("T1: many empty loops", turns("nest i from -99-99-99-99 to 99+99+99+99,j from 0 to 99+99+99+99,k from 1 to 0:a[i]="), 0);
    }

    private static void statementsAndReads() {
        LoopTiler x = Sheet.told("nest i from 0 to 3:a[i]=");
        due("T1: 1 statement", x.nest(0, 2), 1);
        due("T1: 0 reads", x.nest(0, 3), 1);
        x = Sheet.told("nest i from 0 to 3:a[i]=a[i]a[i]a[i]a[i],b[i]=,c[i]=a[i]a[i]a[i]a[i],d[i]=a[i];"
            + "nest i from 0 to 3:a[i]=,b[i]=a[i]a[i]a[i]a[i],c[i]=b[i],d[i]=a[i]a[i]a[i]a[i]");
        due("T1: 4 statements", x.nest(0, 2), 4);
        due("T1: 4, 0, 4, 1 reads", x.nest(0, 3), 13);
        due("T1: 4 statements of the second nest", x.nest(1, 2), 4);
        due("T1: 0, 4, 1, 4 reads", x.nest(1, 3), 13);
        String all = "a[i]=b[i]c[i]d[i]a[j]";
        String most = "nest i from 1 to 5,j from 1 to 10,k from 1 to 10:" + all + "," + all + "," + all + "," + all;
        x = Sheet.told(most + ";" + most);
        due("T1: 4 statements of 4 reads", x.nest(1, 3), 20);
        due("T1: 500 turns of them", x.misses(1, 2), 10000);
    }

    private static void subscripts() {
        LoopTiler x = Sheet.told("nest i from 0 to 3:a[i]=a[i-1][0]");
        due("T1: of one subscript and of two they are never one", x.pairs(0, 3), 0);
        x = Sheet.told("nest i from 0 to 3:a[0][i]=a[i-1]");
        due("T1: of one subscript and of two they are never one", x.pairs(0, 3), 0);
        x = Sheet.told("nest i from 0 to 3:a[i][0]=a[i-1][0]");
        due("T1: two subscripts", x.pairs(0, 3), 3);
        x = Sheet.told("nest i from 0 to 3:a[i][i]=a[i-1][i]");
        due("T1: both subscripts count", x.pairs(0, 3), 0);
        x = Sheet.told("nest i from 0 to 3:a[i]=b[i-1]c[i-1]d[i-1]");
        due("T1: arrays are never one", x.pairs(0, 3), 0);
        x = Sheet.told("nest i from 0 to 3:d[i]=d[i-1]");
        due("T1: the array d", x.pairs(0, 3), 3);
        x = Sheet.told("nest i from 0 to 1,j from 0 to 1,k from 0 to 1:a[9*i+3*j+k]=a[9*i+3*j+k-1]");
        due("T1: all variables", x.pairs(0, 3), 4);
        // the furthest subscripts: 36 times 999, of both signs
        String far = "nest i from 99+12 to 99+12,j from 9*i to 9*i,k from -9*i to -9*i+1:";
        x = Sheet.told(far + "a[9*j+9*j+9*j+9*j][9*k+9*k+9*k+9*k]=a[9*j+9*j+9*j+9*j][9*k+9*k+9*k+9*k]");
        due("T1: the furthest values", x.nest(0, 1), 2);
        due("T1: far elements are not one", x.pairs(0, 3), 0);
        x = Sheet.told(far + "a[9*j+9*j+9*j+9*j][9*j+9*j+9*j+9*j]=a[-9*j-9*j-9*j-9*j][9*j]");
        due("T1: far elements are one", x.pairs(0, 2), 1);
        due("T1: far elements are one", x.pairs(0, 3), 1);
    }

    /** One line of one way: each touch of another line than the touch ahead of it is a miss. */
    private static int missesOfOneLine(String statements) {
        LoopTiler x = Sheet.told("nest i from 0 to 0:" + statements);
        x.cache(1, 1);
        x.cache(2, 1);
        x.cache(3, 1);
        return x.misses(0, 0);
    }

    private static void touchesInOrder() {
        due("T1: reads from the left, then what it writes", missesOfOneLine("a[0]=a[0]b[0]"), 3);
        due("T1: reads from the left, then what it writes", missesOfOneLine("a[0]=b[0]a[0]"), 2);
        due("T1: reads from the left", missesOfOneLine("a[0]=b[0]c[0]c[0]b[0]"), 4);
        due("T1: statements one behind the other", missesOfOneLine("a[0]=,b[0]=b[0],b[0]=,a[0]="), 3);
        due("T1: statements one behind the other", missesOfOneLine("a[0]=,b[0]=a[0],b[0]="), 2);
    }

    private static void blanks() {
        LoopTiler x = Sheet.told("\n\n  nest i from - 2 to 3 , j from i\nto 3 : a [ i + 2 * j ] [ 0 ] \n = \n b [ - i ] c\n[1]\n[2] ,a[0]= \n ");
        due("T1: blanks part tokens", x.nest(0, 3), 4);
        due("T1: blanks part tokens", x.nest(0, 1), 21);
        x = Sheet.told("nest i from-2to3,j from i to3:a[i+2*j][0]=b[-i]c[1][2],a[0]=");
        due("T1: tokens part one another without any", x.nest(0, 1), 21);
    }
}

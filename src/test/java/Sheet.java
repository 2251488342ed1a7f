import java.util.NoSuchElementException;
import java.util.function.Supplier;
import java.util.function.ToIntFunction;

/** What the tests of the project share: texts put on a tape, answers put against what is due. */
final class Sheet {
    /** What throwing counts as, where a call of at is put against what is due. */
    static final int THROWN = Integer.MIN_VALUE + 77;

    private int wrong = 0;
    private int asked = 0;

    void due(String call, long got, long want) {
        asked++;
        if (got != want) {
            wrong++;
            if (wrong <= 40) {
                System.out.println(call + " answered " + got + ", due is " + want);
            }
        }
    }

    void due(String call, boolean got, boolean want) {
        due(call, got ? 1 : 0, want ? 1 : 0);
    }

    /** A call that is refused: it answers what is due, and all that can be asked for is as it was. */
    void refused(String call, Supplier<LoopTiler> made, ToIntFunction<LoopTiler> asked, int want) {
        LoopTiler x = made.get();
        String before = state(x);
        due(call, asked.applyAsInt(x), want);
        due(call + ": all is as it was", state(x).equals(before), true);
    }

    /** All that can be asked for, by some 150 calls. */
    static String state(LoopTiler x) {
        StringBuilder state = new StringBuilder();
        for (int what = 0; what < 6; what++) {
            state.append(x.count(what)).append(' ');
        }
        for (int nest = 0; nest < 2; nest++) {
            for (int what = 0; what < 7; what++) {
                state.append(x.nest(nest, what)).append(' ');
            }
            for (int i = 0; i < 9; i++) {
                state.append(x.change(nest, i / 3, i % 3, false)).append(' ');
                state.append(x.change(nest, i / 3, i % 3, true)).append(' ');
            }
            for (int i = 0; i < x.nest(nest, 1) && i < 12; i++) {
                for (int variable = 0; variable < x.nest(nest, 0); variable++) {
                    state.append(x.at(nest, i, variable)).append(' ');
                }
            }
            state.append(x.pairs(nest, 3)).append(' ').append(x.legal(nest)).append(' ').append(x.visits(nest, 0));
            state.append(' ').append(x.misses(nest, 0)).append(' ').append(x.misses(nest, 3)).append(" | ");
        }
        return state.append(x.shift(0)).append(' ').append(x.both(0, 0, 0, 1)).toString();
    }

    static int at(LoopTiler x, int nest, int i, int variable) {
        try {
            return x.at(nest, i, variable);
        } catch (NoSuchElementException e) {
            return THROWN;
        }
    }

    void end(String name) {
        System.out.println(name + ": " + asked + " answers, " + wrong + " wrong");
        if (wrong != 0) {
            System.exit(1);
        }
    }

    /** Feeds a text, filled up by blanks behind it, and has it read. */
    static int tell(LoopTiler x, String text) {
        feed(x, text);
        return x.text(text.length());
    }

    static void feed(LoopTiler x, String text) {
        for (int from = 0; from < text.length(); from += 20) {
            int[] words = new int[5];
            for (int b = 0; b < 20; b++) {
                int sign = from + b < text.length() ? text.charAt(from + b) & 255 : ' ';
                words[b / 4] = words[b / 4] << 8 | sign;
            }
            x.feed(words[0], words[1], words[2], words[3], words[4]);
        }
    }

    static LoopTiler told(String text) {
        LoopTiler x = new LoopTiler();
        int nests = tell(x, text);
        if (nests < 1) {
            throw new IllegalStateException("the text of a test has a fault: " + text + " " + nests);
        }
        return x;
    }
}

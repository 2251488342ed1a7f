/** What the tests of the project share: texts put on a tape, answers put against what is due. */
final class Sheet {
    private int wrong = 0;
    private int asked = 0;

    void due(String call, long got, long want) {
        asked++;
        if (got != want) {
            wrong++;
            if (wrong <= 40) {
                System.out.println(call + " answered " + got + ", due is " + want);
            }
        }
    }

    void due(String call, boolean got, boolean want) {
        due(call, got ? 1 : 0, want ? 1 : 0);
    }

    void end(String name) {
        System.out.println(name + ": " + asked + " answers, " + wrong + " wrong");
        if (wrong != 0) {
            System.exit(1);
        }
    }

    /** Feeds a text, filled up by blanks behind it, and has it read. */
    static int tell(LoopTiler x, String text) {
        feed(x, text);
        return x.text(text.length());
    }

    static void feed(LoopTiler x, String text) {
        for (int from = 0; from < text.length(); from += 20) {
            int[] words = new int[5];
            for (int b = 0; b < 20; b++) {
                int sign = from + b < text.length() ? text.charAt(from + b) & 255 : ' ';
                words[b / 4] = words[b / 4] << 8 | sign;
            }
            x.feed(words[0], words[1], words[2], words[3], words[4]);
        }
    }

    static LoopTiler told(String text) {
        LoopTiler x = new LoopTiler();
        int nests = tell(x, text);
        if (nests < 1) {
            throw new IllegalStateException("the text of a test has a fault: " + text + " " + nests);
        }
        return x;
    }
}

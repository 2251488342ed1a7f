import java.util.ArrayList;
import java.util.List;
import java.util.Random;
import java.util.regex.Matcher;
import java.util.regex.Pattern;

/**
 * Faults of texts made at random and spoilt, against the document's grammar as one pattern: a
 * TOKEN with which no TEXT goes on is one behind which the pattern could match no more.
 */
public final class GrammarTest {
    private static final int TEXTS = 20000;
    private static final Sheet sheet = new Sheet();

    /** Tokens as signs: n nest, f from, t to, i j k, A an array, N a number, w another word, single signs. */
    private static final String TERM = "(?:N(?:\\*[ijk])?|[ijk])";
    private static final String SUM = "-?" + TERM + "(?:[+-]" + TERM + ")*";
    private static final String BOUNDS = "f" + SUM + "t" + SUM;
    private static final String LOOPS = "i" + BOUNDS + "(?:,j" + BOUNDS + "(?:,k" + BOUNDS + "(?:,w" + BOUNDS + ")*)?)?";
    private static final String REF = "A\\[" + SUM + "\\](?:\\[" + SUM + "\\])?";
    private static final String STATEMENT = REF + "=(?:" + REF + ")*";
    private static final String NEST = "n" + LOOPS + ":" + STATEMENT + "(?:," + STATEMENT + ")*";
    private static final Pattern TEXT = Pattern.compile(NEST + "(?:;" + NEST + ")*");

    private static final Pattern TOKENS = Pattern.compile("[a-z]+|[0-9]{1,2}|[-=+*\\[\\],;:]|[ \n]+|[\\x00-\\xff]");

    private static final String[] BITS = {"nest", "from", "to", "i", "j", "k", "l", "a", "b", "d", "e", "0", "9", "10", "99",
        "123", "=", "+", "-", "*", "[", "]", ",", ";", ":", " ", "\n", "@", "A", "i+j", "9*i", "10*i", "3*k", "a[i]", "b[0][i]",
        ",j from 0 to i", "+1", "-i", ",a[i]=", ";nest i from 0 to 1:a[i]="};

    /** How often each kind of fault was due (0: none), so that none is left out unseen. */
    private static final int[] SEEN = new int[4];

    public static void main(String[] args) {
        LoopTiler x = new LoopTiler();
        for (int seed = 0; seed < TEXTS; seed++) {
            String text = spoilt(new Random(seed));
            if (text.length() <= 600) {
                check(x, text);
            }
        }
        for (int kind = 0; kind < 4; kind++) {
            sheet.due("texts of fault " + kind + " are many", SEEN[kind] > 500, true);
        }
        sheet.end("GrammarTest");
    }

    private static void check(LoopTiler x, String text) {
        int due = due(text);
        int got = Sheet.tell(x, text);
        // texts without another fault may still be too large: the model of OracleTest looks at that
        if (due > 0 && got < 0) {
            sheet.due("no fault but 4 in " + text, (-2 - got) % 8, 4);
            return;
        }
        SEEN[due > 0 ? 0 : (-2 - due) % 8]++;
        sheet.due("text " + text, got, due);
    }

    // ---- texts

    private static String spoilt(Random random) {
        StringBuilder text = new StringBuilder(made(random));
        int times = random.nextInt(3);
        for (int t = 0; t < times; t++) {
            int place = random.nextInt(text.length());
            int end = Math.min(text.length(), place + random.nextInt(3));
            String bit = random.nextInt(4) == 0 ? "" : BITS[random.nextInt(BITS.length)];
            text.replace(place, end, bit);
            if (text.length() == 0) {
                text.append(' ');
            }
        }
        return text.toString();
    }

    private static String made(Random random) {
        StringBuilder text = new StringBuilder();
        int nests = 1 + random.nextInt(random.nextInt(4) == 0 ? 3 : 2);
        for (int n = 0; n < nests; n++) {
            text.append(n == 0 ? "" : ";").append("nest ");
            int depth = 1 + random.nextInt(random.nextInt(8) == 0 ? 4 : 3);
            for (int v = 0; v < depth; v++) {
                text.append(v == 0 ? "" : ",").append("ijkl".charAt(v)).append(" from ");
                sum(text, v, random);
                text.append(" to ");
                sum(text, v, random);
            }
            text.append(':');
            int statements = 1 + random.nextInt(random.nextInt(6) == 0 ? 5 : 2);
            for (int s = 0; s < statements; s++) {
                text.append(s == 0 ? "" : ",");
                ref(text, depth, random);
                text.append('=');
                int reads = random.nextInt(random.nextInt(6) == 0 ? 6 : 3);
                for (int r = 0; r < reads; r++) {
                    ref(text, depth, random);
                }
            }
        }
        return text.toString();
    }

    private static void ref(StringBuilder text, int depth, Random random) {
        text.append("abcd".charAt(random.nextInt(4)));
        for (int s = random.nextInt(2); s >= 0; s--) {
            text.append('[');
            sum(text, depth, random);
            text.append(']');
        }
    }

    /** Mostly of variables that are known, now and then of one more, of five terms, of a number above 9. */
    private static void sum(StringBuilder text, int known, Random random) {
        int terms = 1 + random.nextInt(random.nextInt(20) == 0 ? 5 : 2);
        text.append(random.nextInt(4) == 0 ? "-" : "");
        for (int t = 0; t < terms; t++) {
            text.append(t == 0 ? "" : random.nextBoolean() ? "+" : "-");
            int variables = Math.min(3, known + (random.nextInt(40) == 0 ? 1 : 0));
            if (variables == 0 || random.nextBoolean()) {
                text.append(random.nextInt(4));
            } else {
                text.append(random.nextInt(3) > 0 ? "" : random.nextInt(30) == 0 ? "10*" : "2 *");
                text.append("ijk".charAt(random.nextInt(variables)));
            }
        }
    }

    // ---- what is due

    private static final class Tokens {
        final StringBuilder signs = new StringBuilder();
        final List<Integer> places = new ArrayList<>();
        final List<Integer> values = new ArrayList<>();
    }

    private static Tokens tokens(String text) {
        Tokens all = new Tokens();
        Matcher m = TOKENS.matcher(text);
        while (m.find()) {
            String token = m.group();
            if (" \n".indexOf(token.charAt(0)) < 0) {
                all.signs.append(sign(token));
                all.places.add(m.start());
                all.values.add(Character.isDigit(token.charAt(0)) ? Integer.parseInt(token) : 0);
            }
        }
        all.places.add(text.length());
        return all;
    }

    private static char sign(String token) {
        char first = token.charAt(0);
        if (token.matches("[ijk]") || "=+-*[],;:".indexOf(first) >= 0) {
            return first;
        }
        if (token.matches("[a-d]")) {
            return 'A';
        }
        if (token.matches("nest|from|to")) {
            return first;
        }
        return Character.isDigit(first) ? 'N' : first >= 'a' && first <= 'z' ? 'w' : '@';
    }

    /** How many nests, or the fault, but for that of kind 4. */
    private static int due(String text) {
        Tokens all = tokens(text);
        for (int t = 0; t <= all.signs.length(); t++) {
            int kind = kindAt(all, t);
            if (kind != 0) {
                return -2 - (8 * all.places.get(t) + kind);
            }
        }
        return all.signs.chars().map(s -> s == ';' ? 1 : 0).sum() + 1;
    }

    private static int kindAt(Tokens all, int t) {
        String signs = all.signs.toString();
        if (t == signs.length()) {
            return TEXT.matcher(signs).matches() ? 0 : 1;
        }
        Matcher m = TEXT.matcher(signs.substring(0, t + 1));
        if (!m.matches() && !m.hitEnd()) {
            return 1;
        }
        String nest = signs.substring(signs.substring(0, t + 1).lastIndexOf('n'), t + 1);
        return isVariableWrong(nest) || isFactorWrong(all, signs, t) ? 2 : isTooMany(signs.substring(0, t + 1), nest) ? 3 : 0;
    }

    private static int many(String signs, char sign) {
        return (int) signs.chars().filter(s -> s == sign).count();
    }

    /** Its last token is a variable in a sum, that is not known there. */
    private static boolean isVariableWrong(String nest) {
        char last = nest.charAt(nest.length() - 1);
        String ahead = nest.substring(0, nest.length() - 1);
        if ("ijk".indexOf(last) < 0 || ahead.matches("n|[^:]*,")) {
            return false;
        }
        int colon = nest.indexOf(':');
        int known = colon < 0 ? many(nest, ',') : many(nest.substring(0, colon), ',') + 1;
        return "ijk".indexOf(last) >= known;
    }

    private static boolean isFactorWrong(Tokens all, String signs, int t) {
        return signs.startsWith("N*", t) && all.values.get(t) > 9;
    }

    /** Its last token brings a loop, a statement, a read, a term, a nest too many. */
    private static boolean isTooMany(String signs, String nest) {
        char last = nest.charAt(nest.length() - 1);
        String row = nest.substring(nest.indexOf(':') + 1);
        switch (last) {
            case ';': return many(signs, ';') == 2;
            case ',': return many(row, ',') == (nest.indexOf(':') < 0 ? 3 : 4);
            // what the statement writes, and five that it reads
            case 'A': return many(row.substring(row.lastIndexOf(',') + 1), 'A') == 6;
            case '+':
            case '-': return nest.matches(".*[ft\\[]-?" + TERM + "(?:[+-]" + TERM + "){3}[+-]");
            default: return false;
        }
    }
}

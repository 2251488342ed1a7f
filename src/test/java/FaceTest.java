import java.io.IOException;
import java.lang.reflect.Constructor;
import java.lang.reflect.Executable;
import java.lang.reflect.Field;
import java.lang.reflect.Method;
import java.lang.reflect.Modifier;
import java.nio.file.Files;
import java.nio.file.Path;
import java.util.ArrayList;
import java.util.List;
import java.util.Set;
import java.util.TreeSet;
import java.util.regex.Matcher;
import java.util.regex.Pattern;

/**
 * 'The public face' of the document, member by member, and what of LANGUAGE.md can be seen from
 * outside: members, classes, fields, parameters, words that the class may not use.
 * It is run from the project's root, as .ci/run does.
 */
public final class FaceTest {
    private static final Sheet sheet = new Sheet();
    private static final Path SOURCE = Path.of("src/main/java/LoopTiler.java");

    /** The lines of the document's face, without the names of parameters. */
    private static final Set<String> FACE = Set.of(
        "static final int NONE",
        "static final int NOWHERE",
        "LoopTiler()",
        "int feed(int, int, int, int, int)",
        "int text(int)",
        "int nest(int, int)",
        "int pairs(int, int)",
        "int distance(int, int, int)",
        "int direction(int, int, int, int, int)",
        "boolean swap(int, int, int)",
        "boolean turn(int, int)",
        "boolean skew(int, int, int, int)",
        "boolean tile(int, int, int, int)",
        "boolean anew(int)",
        "int change(int, int, int, boolean)",
        "int legal(int)",
        "int broken(int, int)",
        "int carried(int, int)",
        "int band(int, int)",
        "int span(int, int, int, int, int)",
        "int visits(int, int)",
        "int at(int, int, int) throws NoSuchElementException",
        "int place(int, int, int, int)",
        "int shift(int)",
        "int fused(int, int, int)",
        "int both(int, int, int, int)",
        "int cache(int, int)",
        "int misses(int, int)",
        "int tileOf(int, int, int)",
        "int best(int, int, int, int)",
        "int count(int)");

    public static void main(String[] args) throws IOException {
        face();
        nothingElse();
        classesInside();
        words(Files.readString(SOURCE));
        sheet.end("FaceTest");
    }

    private static void due(String call, boolean got, boolean want) {
        sheet.due(call, got, want);
    }

    // ---- the face

    private static String parameters(Executable e) {
        List<String> names = new ArrayList<>();
        for (Class<?> type : e.getParameterTypes()) {
            names.add(type.getSimpleName());
        }
        return "(" + String.join(", ", names) + ")";
    }

    private static String thrown(Executable e) {
        StringBuilder all = new StringBuilder();
        for (Class<?> type : e.getExceptionTypes()) {
            all.append(all.length() == 0 ? " throws " : ", ").append(type.getSimpleName());
        }
        return all.toString();
    }

    private static void face() {
        Set<String> has = new TreeSet<>();
        for (Method m : LoopTiler.class.getDeclaredMethods()) {
            if (Modifier.isPublic(m.getModifiers())) {
                String kind = Modifier.isStatic(m.getModifiers()) ? "static " : "";
                has.add(kind + m.getReturnType().getSimpleName() + " " + m.getName() + parameters(m) + thrown(m));
            }
        }
        for (Constructor<?> c : LoopTiler.class.getDeclaredConstructors()) {
            has.add((Modifier.isPublic(c.getModifiers()) ? "" : "hidden ") + "LoopTiler" + parameters(c) + thrown(c));
        }
        for (Field f : LoopTiler.class.getDeclaredFields()) {
            if (!Modifier.isPrivate(f.getModifiers())) {
                has.add(Modifier.toString(f.getModifiers()).replace("public ", "") + " " + f.getType() + " " + f.getName());
            }
        }
        for (String member : FACE) {
            due("the face has " + member, has.contains(member), true);
        }
        for (String member : has) {
            due("the document has " + member, FACE.contains(member), true);
        }
    }

    private static void nothingElse() {
        Class<?> c = LoopTiler.class;
        due("public and final", Modifier.isPublic(c.getModifiers()) && Modifier.isFinal(c.getModifiers()), true);
        due("of no package", c.getPackageName().isEmpty(), true);
        due("above it", c.getSuperclass() == Object.class && c.getInterfaces().length == 0, true);
        Set<String> names = new TreeSet<>();
        for (Method m : c.getDeclaredMethods()) {
            if (Modifier.isPublic(m.getModifiers())) {
                names.add(m.getName());
            } else {
                due("rule 1: " + m + " is private", Modifier.isPrivate(m.getModifiers()), true);
            }
        }
        for (Method m : c.getDeclaredMethods()) {
            due("rule 1: its name is a public one's: " + m, !Modifier.isPublic(m.getModifiers()) && names.contains(m.getName()), false);
        }
    }

    // ---- LANGUAGE.md

    private static void classesInside() {
        Class<?>[] inside = LoopTiler.class.getDeclaredClasses();
        due("rule 11: some twelve classes", inside.length < 13, true);
        oneClass(LoopTiler.class);
        for (Class<?> c : inside) {
            due("rule 1: static " + c, Modifier.isStatic(c.getModifiers()), true);
            due("rule 1: not seen outside " + c, (c.getModifiers() & (Modifier.PUBLIC | Modifier.PROTECTED)) == 0, true);
            oneClass(c);
        }
    }

    private static void oneClass(Class<?> c) {
        int fields = 0;
        for (Field f : c.getDeclaredFields()) {
            boolean still = Modifier.isStatic(f.getModifiers());
            due("rule 5: final " + f, !still || Modifier.isFinal(f.getModifiers()), true);
            due("rule 5: " + f, !still || f.getType().getSimpleName().matches("int|long|boolean|char|String|(int|long|char|byte)\\[\\]"), true);
            fields += still ? 0 : 1;
        }
        due("rule 11: some twenty fields of " + c, fields < 23, true);
        for (Method m : c.getDeclaredMethods()) {
            due("rule 11: seven parameters of " + m, m.getParameterCount() < 8, true);
        }
    }

    private static void words(String source) {
        String code = source.replaceAll("(?s)/\\*.*?\\*/", "").replaceAll("//[^\n]*", "");
        Matcher m = Pattern.compile("import ([^;]*);").matcher(code);
        while (m.find()) {
            due("rule 4: " + m.group(), Set.of("java.util.Arrays", "java.util.NoSuchElementException").contains(m.group(1)), true);
        }
        String[] barred = {"->", "::", "catch", "finally", "synchronized", "assert", "static {", "Exact(", "System.out", "double",
            "float", "Object", "protected", "hashCode", "toString", "package ", "instanceof", "import static"};
        for (String word : barred) {
            due("a word that the class has no need of: " + word, code.contains(word), false);
        }
        m = Pattern.compile("throw new (\\w+)\\(([^)]*)\\)").matcher(code);
        while (m.find()) {
            due("rule 6: " + m.group(), m.group(1).equals("NoSuchElementException"), true);
        }
        int start = 0;
        String[] lines = source.split("\n");
        for (int i = 0; i < lines.length; i++) {
            if (lines[i].matches("(    |        )\\S.*\\) (throws \\w+ )?\\{")) {
                start = i;
            }
            if (lines[i].matches("(    |        )\\}")) {
                due("rule 11: some sixty lines up to line " + (i + 1), i - start < 61, true);
                start = i;
            }
        }
    }
}

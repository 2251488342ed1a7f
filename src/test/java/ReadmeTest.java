import java.io.IOException;
import java.lang.reflect.Method;
import java.lang.reflect.Modifier;
import java.net.URL;
import java.net.URLClassLoader;
import java.nio.file.Files;
import java.nio.file.Path;
import java.util.regex.Matcher;
import java.util.regex.Pattern;
import java.util.stream.Stream;
import javax.tools.JavaCompiler;
import javax.tools.ToolProvider;

/**
 * README.md: its code is one program; each line of it that ends in a comment that begins with an
 * answer is put against that. It is run from the project's root, as .ci/run does.
 */
public final class ReadmeTest {
    private static final Sheet sheet = new Sheet();
    private static final Pattern CODE = Pattern.compile("(?s)```java\n(.*?)```");
    private static final Pattern ASKED = Pattern.compile("(.*);\\s*// (-?\\d+|true|false)(:.*)?");
    private static int lines = 0;

    public static void main(String[] args) throws IOException, ReflectiveOperationException {
        String page = Files.readString(Path.of("README.md"));
        JavaCompiler compiler = ToolProvider.getSystemJavaCompiler();
        if (compiler == null) {
            System.out.println("ReadmeTest: no compiler here, the page's code is not run");
        } else {
            run(program(page), compiler);
            sheet.due("lines with answers are many", lines > 30, true);
        }
        for (Method m : LoopTiler.class.getDeclaredMethods()) {
            if (Modifier.isPublic(m.getModifiers())) {
                sheet.due("the page names " + m.getName(), page.contains("`" + m.getName() + "`"), true);
            }
        }
        try (Stream<Path> tests = Files.list(Path.of("src/test/java"))) {
            tests.map(t -> t.getFileName().toString().replace(".java", "")).filter(t -> t.endsWith("Test"))
                .forEach(t -> sheet.due("the page names " + t, page.contains("`" + t + "`"), true));
        }
        sheet.end("ReadmeTest");
    }

    /** Called by the program of the page. */
    public static void answered(String call, Object got, String due) {
        lines++;
        sheet.due("README: " + call + " is said to be " + due + ", it is " + got, String.valueOf(got).equals(due), true);
    }

    private static String program(String page) {
        StringBuilder all = new StringBuilder("public final class Page { public static void run() {\n");
        Matcher code = CODE.matcher(page);
        while (code.find()) {
            for (String line : code.group(1).split("\n")) {
                Matcher asked = ASKED.matcher(line);
                if (asked.matches()) {
                    String call = asked.group(1).trim();
                    line = "ReadmeTest.answered(\"" + call + "\", " + call + ", \"" + asked.group(2) + "\");";
                }
                all.append(line).append('\n');
            }
        }
        return all.append("} }\n").toString();
    }

    private static void run(String program, JavaCompiler compiler) throws IOException, ReflectiveOperationException {
        Path place = Files.createTempDirectory("readme");
        Path source = place.resolve("Page.java");
        Path compiled = place.resolve("Page.class");
        try {
            Files.writeString(source, program);
            String path = System.getProperty("java.class.path");
            int wrong = compiler.run(null, null, null, "-cp", path, "-d", place.toString(), source.toString());
            sheet.due("the code of the page compiles", wrong, 0);
            if (wrong == 0) {
                try (URLClassLoader loader = new URLClassLoader(new URL[] {place.toUri().toURL()})) {
                    loader.loadClass("Page").getMethod("run").invoke(null);
                }
            }
        } finally {
            Files.deleteIfExists(source);
            Files.deleteIfExists(compiled);
            Files.deleteIfExists(place);
        }
    }
}

import java.io.IOException;
import java.lang.reflect.Field;
import java.lang.reflect.Method;
import java.lang.reflect.Modifier;
import java.net.URL;
import java.net.URLClassLoader;
import java.nio.file.Files;
import java.nio.file.Path;
import java.util.List;
import java.util.regex.Matcher;
import java.util.regex.Pattern;
import javax.tools.JavaCompiler;
import javax.tools.ToolProvider;

/**
 * README.md keeps its word: each example is compiled as it stands, and each of its calls answers what stands behind
 * it; the tables name every method and every constant. Run at the root of the project, after it has been compiled.
 */
public final class ReadmeTest {
    private static final Path README = Path.of("README.md");
    private static final Path BUILD = Path.of("build", "readme");
    private static final String EXAMPLES = "ReadmeExamples";
    private static final Pattern BLOCK = Pattern.compile("(?ms)^```java\n(.*?)^```$");
    private static final Pattern ANSWERED =
            Pattern.compile("(\\w+\\.(\\w+)\\(.*\\)); +// (?:(-?\\d+)|([A-Z_]+))(?:: .*)?");

    private ReadmeTest() {
    }

    public static void main(String[] args) throws IOException, ReflectiveOperationException {
        String readme = Files.readString(README);
        checkMethods(readme);
        checkConstants(readme);
        if (compile(makeExamples(readme))) {
            runExamples();
        }
        Check.end();
    }

    private static void checkMethods(String readme) {
        for (Method method : CurveOrders.class.getDeclaredMethods()) {
            if (!Modifier.isPublic(method.getModifiers())) {
                continue;
            }
            int count = method.getParameterCount();
            String parameters = count == 0 ? "" : "\\w+(, \\w+){" + (count - 1) + "}";
            Check.holds("a table of README.md has " + method,
                    matches(readme, "(?m)^\\| `" + method.getName() + "\\(" + parameters + "\\)` \\| .*\\|$"));
            Check.holds("an example of README.md has an answer of " + method,
                    matches(readme, "(?m)^\\w+\\." + method.getName() + "\\(.*\\); +// "));
        }
    }

    private static void checkConstants(String readme) throws IllegalAccessException {
        for (Field field : CurveOrders.class.getDeclaredFields()) {
            if (Modifier.isPublic(field.getModifiers())) {
                Check.holds("a table of README.md has " + field, matches(readme,
                        "(?m)^\\| `" + field.getName() + "` \\| " + field.getInt(null) + " \\| .*\\|$"));
            }
        }
    }

    private static boolean matches(String text, String pattern) {
        return Pattern.compile(pattern).matcher(text).find();
    }

    /** A class with a method for each example, so that each has names of its own. */
    private static String makeExamples(String readme) {
        StringBuilder made = new StringBuilder("final class " + EXAMPLES + " {\n");
        Matcher blocks = BLOCK.matcher(readme);
        int count = 0;
        while (blocks.find()) {
            count++;
            made.append("static void example").append(count).append("() {\n");
            for (String line : blocks.group(1).split("\n")) {
                made.append(makeLine(line)).append('\n');
            }
            made.append("}\n");
        }
        Check.holds("README.md has examples", count > 0);
        return made.append("}\n").toString();
    }

    /** A call that stands alone becomes a check of its answer; other lines stay. */
    private static String makeLine(String line) {
        Matcher answered = ANSWERED.matcher(line);
        if (!answered.matches()) {
            Check.holds("an answer stands behind " + line, !line.matches("\\w+\\..*"));
            return line;
        }
        String due = answered.group(3) != null ? answered.group(3) + "L" : "CurveOrders." + answered.group(4);
        String told = line.replaceAll(" *//.*", "").replace("\\", "\\\\").replace("\"", "\\\"");
        return "Check.same(\"README.md: " + told + "\", " + answered.group(1) + ", " + due + ");";
    }

    private static boolean compile(String source) throws IOException {
        Path file = BUILD.resolve(EXAMPLES + ".java");
        Files.createDirectories(BUILD);
        Files.writeString(file, source);
        JavaCompiler compiler = ToolProvider.getSystemJavaCompiler();
        int result = compiler.run(null, null, null, "--release", "17", "-cp", System.getProperty("java.class.path"),
                "-d", BUILD.toString(), file.toString());
        Check.same("the compiler on the examples of README.md", result, 0);
        return result == 0;
    }

    /**
     * The examples are loaded beside the tests, and so in another package at run time; they reach Check only if it
     * is loaded with them, which is why a loader of their own takes all classes and tells how many were wrong.
     */
    private static void runExamples() throws IOException, ReflectiveOperationException {
        URL[] places = {BUILD.toUri().toURL(), Path.of(System.getProperty("java.class.path")).toUri().toURL()};
        try (URLClassLoader loader = new URLClassLoader(places, ClassLoader.getPlatformClassLoader())) {
            List<Method> examples = List.of(loader.loadClass(EXAMPLES).getDeclaredMethods());
            for (Method example : examples) {
                example.setAccessible(true);
                example.invoke(null);
            }
            Method wrongs = loader.loadClass("Check").getDeclaredMethod("wrongs");
            wrongs.setAccessible(true);
            Check.same("answers of README.md's examples that are not as due", (int) wrongs.invoke(null), 0);
        }
    }
}

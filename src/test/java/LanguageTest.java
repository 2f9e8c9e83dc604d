import java.io.IOException;
import java.lang.reflect.Array;
import java.lang.reflect.Constructor;
import java.lang.reflect.Field;
import java.lang.reflect.Method;
import java.lang.reflect.Modifier;
import java.nio.charset.StandardCharsets;
import java.nio.file.Files;
import java.nio.file.Path;
import java.util.IdentityHashMap;
import java.util.List;
import java.util.Map;
import java.util.Set;
import java.util.TreeSet;
import java.util.regex.Matcher;
import java.util.regex.Pattern;

/** The document's face, and the rules of LANGUAGE.md that a test can look at; run at the root of the project. */
public final class LanguageTest {
    private static final Path SOURCE = Path.of("src", "main", "java", "CurveOrders.java");
    /** What 512 new objects may take of the room of 7.3 million fields and elements. */
    private static final int MOST_ELEMENTS = 7_300_000 / 512;
    private static final int MOST_OBJECTS = 600_000 / 512;
    private static final Set<String> FACE = Set.of("int setLevels(int)", "int setCurve(int)", "int states()",
            "int visit(int,int)", "int index(int,int)", "int cell(int,boolean)", "int breaks()", "int stretch()",
            "int append(int)", "int clearText()", "int faultPosition()", "int read()",
            "int setRange(int,int,int,int)", "int intervals()", "int interval(int,boolean)", "int extra(int)",
            "int covering(int,int,boolean)", "int clusters(int,int)", "int addPoint(int,int)",
            "int removePoint(int,int)", "int points()", "int nearest(int,int)", "int setBucket(int)",
            "int leaves()", "int leaf(int,int)", "int leafAt(int,int)", "int neighbours(int,int)",
            "int neighbour(int,int,int)", "int balance()", "int walk(int,int)", "int walked(int,int,int)",
            "int save(int)", "int restore(int)", "long checksum()");
    private static final Map<String, Integer> CONSTANTS = Map.of("BAD_INDEX", -1, "BAD_VALUE", -2, "NOT_POSSIBLE",
            -3, "FULL", -4, "NONE", -5, "MORTON", 0, "HILBERT", 1, "TABLE", 2);
    private static final List<String> FORBIDDEN = List.of("\\b(throw|throws|try|catch|finally|synchronized|assert)\\b",
            "->", "::", "\\bimport\\b", "\\bpackage\\b", "\\bprotected\\b", "\\bnative\\b", "\\bvolatile\\b",
            "\\bSystem\\.(?!arraycopy\\b)", "Exact\\(", "\\b(Object|Random|Thread|Runtime|Class)\\b", "\\bstatic \\{",
            "\\b(equals|hashCode|toString)\\(");

    private LanguageTest() {
    }

    public static void main(String[] args) throws IOException, IllegalAccessException {
        checkFace();
        checkConstants();
        checkClassesInside();
        String source = Files.readString(SOURCE, StandardCharsets.US_ASCII);
        checkWords(withoutComments(source));
        checkNothingIsMadeByCalls(withoutComments(source));
        checkMethodsAreShort(source);
        checkRoom();
        Check.end();
    }

    private static String signature(Method method) {
        StringBuilder made = new StringBuilder(method.getReturnType() + " " + method.getName() + "(");
        for (Class<?> type : method.getParameterTypes()) {
            made.append(made.charAt(made.length() - 1) == '(' ? "" : ",").append(type);
        }
        return made.append(')').toString();
    }

    private static void checkFace() {
        Set<String> found = new TreeSet<>();
        for (Method method : CurveOrders.class.getDeclaredMethods()) {
            if (Modifier.isPublic(method.getModifiers()) && !Modifier.isStatic(method.getModifiers())) {
                found.add(signature(method));
            } else {
                Check.holds(method.getName() + " is private", Modifier.isPrivate(method.getModifiers()));
            }
        }
        Check.holds("the public methods are those of the document: " + found, found.equals(FACE));
        Check.holds("public final", CurveOrders.class.getModifiers() == (Modifier.PUBLIC | Modifier.FINAL));
        Constructor<?>[] constructors = CurveOrders.class.getDeclaredConstructors();
        Check.same("constructors", constructors.length, 1);
        Check.same("their parameters", constructors[0].getParameterCount(), 0);
        Check.holds("it is public", Modifier.isPublic(constructors[0].getModifiers()));
    }

    private static void checkConstants() throws IllegalAccessException {
        int found = 0;
        for (Field field : CurveOrders.class.getDeclaredFields()) {
            if (Modifier.isPublic(field.getModifiers())) {
                found++;
                Check.holds(field.getName() + " is a constant", Modifier.isStatic(field.getModifiers())
                        && Modifier.isFinal(field.getModifiers()) && field.getType() == int.class);
                Check.same(field.getName(), field.getInt(null), CONSTANTS.getOrDefault(field.getName(), 99));
            } else {
                Check.holds(field.getName() + " is private", Modifier.isPrivate(field.getModifiers()));
            }
            Check.holds(field.getName() + " is final if it is static",
                    !Modifier.isStatic(field.getModifiers()) || Modifier.isFinal(field.getModifiers()));
        }
        Check.same("constants", found, CONSTANTS.size());
    }

    private static void checkClassesInside() {
        Class<?>[] inside = CurveOrders.class.getDeclaredClasses();
        Check.holds("at most twelve classes", inside.length + 1 <= 12);
        for (Class<?> one : inside) {
            Check.holds(one + " is static", Modifier.isStatic(one.getModifiers()));
            Check.holds(one + " is not public", !Modifier.isPublic(one.getModifiers()));
            Check.holds(one + " has at most twenty fields", one.getDeclaredFields().length <= 20);
            for (Method method : one.getDeclaredMethods()) {
                for (String face : FACE) {
                    String name = face.substring(face.indexOf(' ') + 1, face.indexOf('('));
                    Check.holds(method + " has a name of its own", !method.getName().equals(name));
                }
                Check.holds(method + " has at most seven parameters", method.getParameterCount() <= 7);
            }
        }
    }

    private static String withoutComments(String source) {
        return source.replaceAll("(?s)/\\*.*?\\*/", "").replaceAll("//[^\n]*", "");
    }

    private static void checkWords(String code) {
        for (String pattern : FORBIDDEN) {
            Matcher matcher = Pattern.compile(pattern).matcher(code);
            Check.holds("no " + pattern, !matcher.find());
        }
    }

    /** Rows are made with their objects, so that a run of calls takes no room. */
    private static void checkNothingIsMadeByCalls(String code) {
        for (String line : code.split("\n")) {
            if (line.contains("new ")) {
                Check.holds("made by a field: " + line.trim(), line.matches("\\s+(private )?final [^()]* = .*new .*"));
            }
        }
        Check.holds("no copies", !code.contains("Arrays.") && !code.contains("clone("));
    }

    private static void checkMethodsAreShort(String source) {
        Pattern method = Pattern.compile("(?ms)^((?: {4}){1,2})(?!if|for|while|switch)\\w[^\n;=]*\\) \\{$.*?^\\1\\}$");
        Matcher matcher = method.matcher(source);
        int found = 0;
        while (matcher.find()) {
            found++;
            long lines = matcher.group().lines().count();
            Check.holds(lines + " lines: " + matcher.group().lines().findFirst().orElse("").trim(), lines <= 60);
        }
        Check.holds("methods are found: " + found, found > FACE.size());
        Check.holds("short lines", source.lines().allMatch(line -> line.length() <= 120));
    }

    private static void checkRoom() throws IllegalAccessException {
        CurveOrders x = new CurveOrders();
        IdentityHashMap<Object, Boolean> seen = new IdentityHashMap<>();
        int elements = countRoom(x, seen);
        Check.holds("elements of an object: " + elements, elements <= MOST_ELEMENTS);
        Check.holds("objects of an object: " + seen.size(), seen.size() <= MOST_OBJECTS);
        System.out.println("a new object takes " + seen.size() + " objects, " + elements + " fields and elements");
    }

    private static int countRoom(Object object, IdentityHashMap<Object, Boolean> seen) throws IllegalAccessException {
        if (object == null || seen.put(object, true) != null) {
            return 0;
        }
        int count = 0;
        if (object.getClass().isArray()) {
            int length = Array.getLength(object);
            for (int i = 0; i < length && !object.getClass().getComponentType().isPrimitive(); i++) {
                count += countRoom(Array.get(object, i), seen);
            }
            return count + length;
        }
        for (Field field : object.getClass().getDeclaredFields()) {
            if (!Modifier.isStatic(field.getModifiers())) {
                field.setAccessible(true);
                count += 1 + (field.getType().isPrimitive() ? 0 : countRoom(field.get(object), seen));
            }
        }
        return count;
    }
}

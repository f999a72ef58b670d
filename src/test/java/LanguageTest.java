import java.io.IOException;
import java.lang.reflect.Field;
import java.lang.reflect.Method;
import java.lang.reflect.Modifier;
import java.nio.charset.StandardCharsets;
import java.nio.file.Files;
import java.nio.file.Path;
import java.util.ArrayList;
import java.util.HashMap;
import java.util.List;
import java.util.Map;
import java.util.Set;
import java.util.TreeSet;
import java.util.regex.Matcher;
import java.util.regex.Pattern;

/** Those rules of LANGUAGE.md that can be told from the text of the class, or from what was compiled of it. */
public final class LanguageTest {
    private static final Path SOURCE = Path.of("src", "main", "java", "SixWhoTurn.java");
    private static final Set<Class<?>> CONSTANTS = Set.of(int.class, long.class, boolean.class, char.class, String.class,
        int[].class, long[].class, char[].class, byte[].class);
    /** A method's first line, as this file writes them: its modifiers and type, its name, its parameters. */
    private static final Pattern METHOD = Pattern.compile(
        "(?m)^( +)(?:[a-zA-Z]\\w*(?:\\[\\])* )*?(\\w+)\\([^;{}=]*\\)(?: throws \\w+)? \\{$");
    private static final Pattern LIBRARY = Pattern.compile("\\b(System|Math|Integer|Long|Arrays|List)\\.(\\w+)");
    private static final Set<String> ALLOWED = Set.of("System.arraycopy", "Math.max", "Math.min", "Math.abs",
        "Math.floorMod", "Math.floorDiv", "Integer.bitCount", "Integer.compare", "Arrays.fill");

    public static void main(String[] args) throws IOException {
        String whole = Files.readString(SOURCE, StandardCharsets.ISO_8859_1);
        Check.due("signs are 1 to 126", whole.chars().allMatch(c -> c >= 1 && c <= 126), true);
        String code = withoutComments(whole);
        words(code);
        exceptions(code);
        lengths(code);
        depths(code);
        List<Class<?>> classes = new ArrayList<>(List.of(SixWhoTurn.class));
        classes.addAll(List.of(SixWhoTurn.class.getDeclaredClasses()));
        Check.due("at most twelve classes", classes.size() <= 12, true);
        for (Class<?> c : classes) {
            shape(c);
        }
        Check.finish();
    }

    private static String withoutComments(String whole) {
        return whole.replaceAll("(?s)/\\*.*?\\*/", "").replaceAll("//[^\n]*", "");
    }

    /** Rules 2 to 6 and 13: no package, no import but the one that the face has, none of the words left out. */
    private static void words(String code) {
        for (String word : new String[] {"package", "synchronized", "assert", "finally", "native", "volatile", "transient",
            "strictfp", "protected", "Object", "Thread", "Random", "Exception", "Throwable", "Error", "var", "yield"}) {
            Check.due("no " + word, Pattern.compile("\\b" + word + "\\b").matcher(code).find(), false);
        }
        Check.due("no lambda, no method reference", code.contains("->") || code.contains("::"), false);
        Check.due("no static block", Pattern.compile("static\\s*\\{").matcher(code).find(), false);
        Matcher imports = Pattern.compile("(?m)^import (.*);$").matcher(code);
        while (imports.find()) {
            Check.due("import " + imports.group(1), imports.group(1).equals("java.util.NoSuchElementException"), true);
        }
        Matcher calls = LIBRARY.matcher(code);
        while (calls.find()) {
            Check.due(calls.group() + " is allowed", ALLOWED.contains(calls.group()), true);
        }
    }

    /** Rule 6: row alone throws, and nothing is caught, so that nothing of the machine's is. */
    private static void exceptions(String code) {
        Check.due("no catch", Pattern.compile("\\b(try|catch)\\b").matcher(code).find(), false);
        Matcher thrown = Pattern.compile("\\bthrow\\b[^;]*;").matcher(code);
        int found = 0;
        while (thrown.find()) {
            found++;
            Check.due(thrown.group(), thrown.group().equals("throw new NoSuchElementException();"), true);
            String before = code.substring(0, thrown.start());
            Check.due("in row", before.lastIndexOf("public int row(") > before.lastIndexOf("private "), true);
        }
        Check.due("one throw", found, 1);
    }

    /** The body of each method, by its name; those of one name are joined. */
    private static Map<String, String> bodies(String code) {
        Map<String, String> bodies = new HashMap<>();
        Matcher m = METHOD.matcher(code);
        int from = 0;
        while (m.find(from)) {
            int end = code.indexOf("\n" + m.group(1) + "}\n", m.end());
            Check.due(m.group(2) + " has an end", end > 0, true);
            bodies.merge(m.group(2), code.substring(m.end(), end), String::concat);
            from = end;
        }
        return bodies;
    }

    /** Rule 11: some sixty lines. */
    private static void lengths(String code) {
        for (Map.Entry<String, String> method : bodies(code).entrySet()) {
            long rows = method.getValue().lines().count();
            Check.due(method.getKey() + " is short", rows <= 60, true);
        }
    }

    /** Rules 8 and 11: no recursion here, and calls at most eight deep. */
    private static void depths(String code) {
        Map<String, String> bodies = bodies(code);
        Check.due("all methods of the face are seen", bodies.keySet().containsAll(List.of("skill", "row", "sheet")), true);
        Check.due("those of the classes inside too", bodies.keySet().containsAll(List.of("reckonScore", "placeOf")), true);
        for (String name : bodies.keySet()) {
            Check.due("calls from " + name + " on are eight deep at most", depth(name, bodies, 1) <= 8, true);
        }
    }

    private static int depth(String name, Map<String, String> bodies, int above) {
        if (above > 20) {
            return 0;
        }
        int deepest = 0;
        Matcher calls = Pattern.compile("\\b(\\w+)\\(").matcher(bodies.get(name));
        while (calls.find()) {
            if (bodies.containsKey(calls.group(1))) {
                deepest = Math.max(deepest, depth(calls.group(1), bodies, above + 1));
            }
        }
        return 1 + deepest;
    }

    /** Rules 1, 2, 5 and 11, of one class. */
    private static void shape(Class<?> c) {
        boolean inside = c != SixWhoTurn.class;
        if (inside) {
            Check.due(c + " is static", Modifier.isStatic(c.getModifiers()), true);
            Check.due(c + " is private or package-visible", c.getModifiers() & (Modifier.PUBLIC | Modifier.PROTECTED), 0);
        }
        Set<String> face = new TreeSet<>();
        for (Method m : SixWhoTurn.class.getDeclaredMethods()) {
            if (Modifier.isPublic(m.getModifiers())) {
                face.add(m.getName());
            }
        }
        for (Method m : c.getDeclaredMethods()) {
            Check.due(m + " has at most seven parameters", m.getParameterCount() <= 7, true);
            Check.due(m + " has a name of its own", Modifier.isPublic(m.getModifiers()) && !inside
                || !face.contains(m.getName()), true);
        }
        int fields = 0;
        for (Field f : c.getDeclaredFields()) {
            if (Modifier.isStatic(f.getModifiers())) {
                Check.due(f + " is final", Modifier.isFinal(f.getModifiers()), true);
                Check.due(f + " is a constant", CONSTANTS.contains(f.getType()), true);
            } else {
                fields++;
            }
        }
        Check.due(c + " has at most twenty fields", fields <= 20, true);
    }
}

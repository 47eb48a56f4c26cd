import java.io.IOException;
import java.lang.reflect.Field;
import java.lang.reflect.Method;
import java.lang.reflect.Modifier;
import java.nio.file.Files;
import java.nio.file.Path;
import java.util.ArrayList;
import java.util.HashMap;
import java.util.List;
import java.util.Map;
import java.util.Set;
import java.util.TreeSet;
import java.util.regex.Matcher;
import java.util.regex.Pattern;

/**
 * What of LANGUAGE.md can be seen in the source or in the compiled class, by the rule's number.
 * Whether an index is looked at and whether a loop ends (rules 7 and 9) no test here can see.
 */
public final class LanguageTest {
    private static final Checks CHECKS = new Checks("LanguageTest");
    private static final int MOST_CLASSES = 12;
    private static final int MOST_FIELDS = 20;
    private static final int MOST_PARAMETERS = 7;
    private static final int MOST_LINES = 60;
    private static final int DEEPEST = 8;

    private static final Set<String> LIBRARY = Set.of("Math.min", "Math.max", "Math.abs", "Math.floorMod",
            "Math.floorDiv", "Integer.bitCount", "Integer.compare", "Integer.min", "Integer.max",
            "System.arraycopy", "Arrays.copyOf", "Arrays.copyOfRange", "Arrays.fill");
    private static final Set<String> IMPORTS = Set.of("java.util.Arrays", "java.util.ArrayList", "java.util.List",
            "java.util.Iterator");
    private static final String[][] FORBIDDEN = {
        {"no package", "\\bpackage\\b"}, {"1", "\\bprotected\\b"}, {"2", "->"}, {"2", "::"},
        {"4", "Exact\\b"}, {"5", "\\bstatic\\s*\\{"}, {"6", "\\bthrows?\\b"}, {"6", "\\btry\\b"},
        {"6", "\\bcatch\\b"}, {"6", "\\bsynchronized\\b"}, {"6", "\\bassert\\b"},
        {"13", "\\b(?:Thread|Random|File|Path|Files|Scanner)\\b"}};
    private static final Pattern METHOD = Pattern.compile(
            "(?m)^ +(?:(?:public|private|static|final) +)*(?:(?:int|long|boolean|void|int\\[\\]) +)?(\\w+)\\([^)\\n]*\\) \\{$");
    private static final Set<String> NO_METHODS = Set.of("if", "for", "while", "switch");

    public static void main(String[] args) throws IOException {
        compiled(BedsBySnore.class);
        Class<?>[] inside = BedsBySnore.class.getDeclaredClasses();
        CHECKS.holds("rule 11: some twelve classes at most", inside.length + 1 <= MOST_CLASSES);
        for (Class<?> c : inside) {
            CHECKS.holds("rule 1: " + c + " is static", Modifier.isStatic(c.getModifiers()));
            CHECKS.holds("rule 1: " + c + " is neither public nor protected",
                    (c.getModifiers() & (Modifier.PUBLIC | Modifier.PROTECTED)) == 0);
            compiled(c);
        }
        source(Files.readString(Path.of(System.getProperty("program", "src/main/java/BedsBySnore.java"))));
        CHECKS.end();
    }

    private static void compiled(Class<?> c) {
        int fields = 0;
        for (Field f : c.getDeclaredFields()) {
            boolean isStatic = Modifier.isStatic(f.getModifiers());
            CHECKS.holds("rule 5: " + f + " is final if it is static", !isStatic || Modifier.isFinal(f.getModifiers()));
            fields += isStatic ? 0 : 1;
        }
        CHECKS.holds("rule 11: " + c + " has some twenty fields at most: " + fields, fields <= MOST_FIELDS);
        for (Method m : c.getDeclaredMethods()) {
            CHECKS.holds("rule 11: " + m + " takes seven at most", m.getParameterCount() <= MOST_PARAMETERS);
        }
    }

    private static void source(String whole) {
        CHECKS.holds("rule 4: the source's signs are ASCII", whole.chars().allMatch(c -> c < 127));
        String code = bare(whole);
        for (String[] word : FORBIDDEN) {
            CHECKS.holds("rule " + word[0] + ": no " + word[1], !Pattern.compile(word[1]).matcher(code).find());
        }
        Matcher imports = Pattern.compile("import ([^;]*);").matcher(code);
        while (imports.find()) {
            CHECKS.holds("rule 4: import " + imports.group(1), IMPORTS.contains(imports.group(1)));
        }
        Matcher library = Pattern.compile("\\b(Math|Integer|Long|System|Arrays)\\.\\w+").matcher(
                code.replaceAll("import [^;]*;", " "));
        while (library.find()) {
            CHECKS.holds("rule 4: " + library.group(), LIBRARY.contains(library.group()));
        }
        Map<String, List<String>> bodies = bodies(code);
        CHECKS.holds("methods are found: " + bodies.size(), bodies.size() > 60);
        for (Map.Entry<String, List<String>> method : bodies.entrySet()) {
            for (String body : method.getValue()) {
                CHECKS.holds("rule 11: " + method.getKey() + " has some sixty lines at most",
                        body.lines().count() <= MOST_LINES);
            }
        }
        for (String name : bodies.keySet()) {
            CHECKS.holds("rules 8, 11: calls from " + name + " go eight deep at most, and never round",
                    depth(name, bodies, DEEPEST + 1) <= DEEPEST);
        }
    }

    /** Without comments and texts, line by line as it was. */
    private static String bare(String whole) {
        StringBuilder code = new StringBuilder();
        Matcher comments = Pattern.compile("(?s)/\\*.*?\\*/").matcher(whole);
        int from = 0;
        while (comments.find()) {
            code.append(whole, from, comments.start()).append(comments.group().replaceAll("[^\n]", ""));
            from = comments.end();
        }
        code.append(whole.substring(from));
        return code.toString().replaceAll("//[^\n]*", "").replaceAll("\"[^\"\n]*\"", "\"\"");
    }

    /** Methods of one name are taken together: a chain of calls may be thought longer, never shorter. */
    private static Map<String, List<String>> bodies(String code) {
        Map<String, List<String>> bodies = new HashMap<>();
        Matcher m = METHOD.matcher(code);
        while (m.find()) {
            if (!NO_METHODS.contains(m.group(1))) {
                int end = m.end();
                for (int open = 1; open > 0; end++) {
                    open += code.charAt(end) == '{' ? 1 : code.charAt(end) == '}' ? -1 : 0;
                }
                bodies.computeIfAbsent(m.group(1), name -> new ArrayList<>()).add(code.substring(m.end(), end - 1));
            }
        }
        return bodies;
    }

    /** How deep calls go, or one more than most if they go deeper than that. */
    private static int depth(String name, Map<String, List<String>> bodies, int most) {
        if (most <= 1) {
            return 1;
        }
        int deepest = 0;
        for (String called : calledIn(bodies.get(name))) {
            if (bodies.containsKey(called)) {
                deepest = Math.max(deepest, depth(called, bodies, most - 1));
            }
        }
        return deepest + 1;
    }

    private static Set<String> calledIn(List<String> bodies) {
        Set<String> called = new TreeSet<>();
        for (String body : bodies) {
            Matcher m = Pattern.compile("(?<!new )\\b(\\w+)\\(").matcher(body);
            while (m.find()) {
                called.add(m.group(1));
            }
        }
        return called;
    }
}

import java.io.IOException;
import java.lang.reflect.Constructor;
import java.lang.reflect.Field;
import java.lang.reflect.Method;
import java.lang.reflect.Modifier;
import java.nio.file.Files;
import java.nio.file.Path;
import java.util.Set;
import java.util.TreeSet;
import java.util.regex.Matcher;
import java.util.regex.Pattern;

/** The class has the document's face and no other, and its source keeps to LANGUAGE.md. */
public final class FaceTest {
    private static final Checks CHECKS = new Checks("FaceTest");
    private static final String[] METHODS = {
        "write(int)", "wipe()", "fault()", "lay()", "guest(int,int)", "bed(int)", "wall(int)", "carry(int,int)",
        "stuff(int)", "hour()", "undo()", "law(int)", "moves(int)", "best(int,int)", "wallTo(int)",
        "within(int,int)", "night(int)", "heard(int,int,int)", "forget()", "feigned()", "hums(int)",
        "odds(int,int,int)", "steps(int)", "day(int,int,int)", "keep()", "back()", "count(int)"};
    private static final String[] FORBIDDEN = {
        "\\bthrow\\b", "\\bthrows\\b", "\\btry\\b", "\\bcatch\\b", "\\bsynchronized\\b", "\\bassert\\b", "->", "::",
        "\\bprotected\\b", "\\bstatic\\s*\\{", "\\bpackage\\b", "Exact\\b", "\\bSystem\\.(?!arraycopy\\b)"};

    public static void main(String[] args) throws IOException {
        constants();
        methods();
        members(BedsBySnore.class);
        for (Class<?> inside : BedsBySnore.class.getDeclaredClasses()) {
            CHECKS.holds(inside + " is static", Modifier.isStatic(inside.getModifiers()));
            CHECKS.holds(inside + " is not public", !Modifier.isPublic(inside.getModifiers()));
            members(inside);
        }
        source(Files.readString(Path.of(System.getProperty("program", "src/main/java/BedsBySnore.java"))));
        CHECKS.end();
    }

    private static void constants() {
        CHECKS.due("BAD", BedsBySnore.BAD, -1);
        CHECKS.due("NO", BedsBySnore.NO, -2);
        CHECKS.due("FULL", BedsBySnore.FULL, -3);
        CHECKS.due("NONE", BedsBySnore.NONE, -4);
        Set<String> seen = new TreeSet<>();
        for (Field f : BedsBySnore.class.getDeclaredFields()) {
            if (!Modifier.isPrivate(f.getModifiers())) {
                CHECKS.holds(f + " is public static final", (f.getModifiers() & 25) == 25);
                seen.add(f.getName());
            }
        }
        CHECKS.holds("no other constant: " + seen, seen.equals(Set.of("BAD", "NO", "FULL", "NONE")));
    }

    private static void methods() {
        CHECKS.holds("the class is final", Modifier.isFinal(BedsBySnore.class.getModifiers()));
        Constructor<?>[] makers = BedsBySnore.class.getDeclaredConstructors();
        CHECKS.due("constructors", makers.length, 1);
        CHECKS.holds("the constructor is public, of no argument",
                Modifier.isPublic(makers[0].getModifiers()) && makers[0].getParameterCount() == 0);
        Set<String> faces = new TreeSet<>();
        Set<String> names = new TreeSet<>();
        for (Method m : BedsBySnore.class.getDeclaredMethods()) {
            if (!Modifier.isPrivate(m.getModifiers())) {
                CHECKS.holds(m + " is public, answers int",
                        Modifier.isPublic(m.getModifiers()) && m.getReturnType() == int.class);
                faces.add(m.getName() + "(" + "int,".repeat(m.getParameterCount()).replaceAll(",$", "") + ")");
                names.add(m.getName());
            }
        }
        CHECKS.holds("the face: " + faces, faces.equals(Set.of(METHODS)));
        for (Method m : BedsBySnore.class.getDeclaredMethods()) {
            CHECKS.holds(m + " has a name of its own",
                    !Modifier.isPrivate(m.getModifiers()) || !names.contains(m.getName()));
        }
    }

    private static void members(Class<?> c) {
        int fields = 0;
        for (Field f : c.getDeclaredFields()) {
            boolean isStatic = Modifier.isStatic(f.getModifiers());
            CHECKS.holds(f + " is final if it is static", !isStatic || Modifier.isFinal(f.getModifiers()));
            fields += isStatic ? 0 : 1;
        }
        CHECKS.holds(c + " has some twenty fields at most: " + fields, fields <= 20);
        for (Method m : c.getDeclaredMethods()) {
            CHECKS.holds(m + " takes seven at most", m.getParameterCount() <= 7);
        }
    }

    private static void source(String whole) {
        String code = whole.replaceAll("(?s)/\\*.*?\\*/", " ").replaceAll("//[^\n]*", " ")
                .replaceAll("\"[^\"\n]*\"", "\"\"");
        for (String word : FORBIDDEN) {
            Matcher m = Pattern.compile(word).matcher(code);
            CHECKS.holds("no " + word + " in the source", !m.find());
        }
        CHECKS.holds("the source is ASCII", whole.chars().allMatch(c -> c < 127));
        Matcher imports = Pattern.compile("import ([^;]*);").matcher(code);
        while (imports.find()) {
            CHECKS.holds("import " + imports.group(1), Set.of("java.util.Arrays", "java.util.ArrayList",
                    "java.util.List", "java.util.Iterator").contains(imports.group(1)));
        }
    }
}

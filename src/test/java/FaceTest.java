import java.io.IOException;
import java.lang.reflect.Constructor;
import java.lang.reflect.Field;
import java.lang.reflect.Method;
import java.lang.reflect.Modifier;
import java.nio.file.Files;
import java.nio.file.Path;
import java.util.Set;
import java.util.TreeSet;
import java.util.regex.Matcher;
import java.util.regex.Pattern;

/** The class has the document's face and no other. */
public final class FaceTest {
    private static final Checks CHECKS = new Checks("FaceTest");
    private static final String[] METHODS = {
        "write(int)", "wipe()", "fault()", "lay()", "guest(int,int)", "bed(int)", "wall(int)", "carry(int,int)",
        "stuff(int)", "hour()", "undo()", "law(int)", "moves(int)", "best(int,int)", "wallTo(int)",
        "within(int,int)", "night(int)", "heard(int,int,int)", "forget()", "feigned()", "hums(int)",
        "odds(int,int,int)", "steps(int)", "day(int,int,int)", "keep()", "back()", "count(int)"};

    public static void main(String[] args) throws IOException {
        constants();
        methods();
        asInTheDocument(Files.readString(Path.of(System.getProperty("document", "../shared/DOC.md"))));
        CHECKS.end();
    }

    private static void constants() {
        CHECKS.due("BAD", BedsBySnore.BAD, -1);
        CHECKS.due("NO", BedsBySnore.NO, -2);
        CHECKS.due("FULL", BedsBySnore.FULL, -3);
        CHECKS.due("NONE", BedsBySnore.NONE, -4);
        Set<String> seen = new TreeSet<>();
        for (Field f : BedsBySnore.class.getDeclaredFields()) {
            if (!Modifier.isPrivate(f.getModifiers())) {
                CHECKS.holds(f + " is public static final", (f.getModifiers() & 25) == 25);
                seen.add(f.getName());
            }
        }
        CHECKS.holds("no other constant: " + seen, seen.equals(Set.of("BAD", "NO", "FULL", "NONE")));
    }

    private static void methods() {
        CHECKS.holds("the class is final", Modifier.isFinal(BedsBySnore.class.getModifiers()));
        Constructor<?>[] makers = BedsBySnore.class.getDeclaredConstructors();
        CHECKS.due("constructors", makers.length, 1);
        CHECKS.holds("the constructor is public, of no argument",
                Modifier.isPublic(makers[0].getModifiers()) && makers[0].getParameterCount() == 0);
        Set<String> faces = new TreeSet<>();
        Set<String> names = new TreeSet<>();
        for (Method m : BedsBySnore.class.getDeclaredMethods()) {
            if (!Modifier.isPrivate(m.getModifiers())) {
                CHECKS.holds(m + " is public, answers int",
                        Modifier.isPublic(m.getModifiers()) && m.getReturnType() == int.class);
                faces.add(m.getName() + "(" + "int,".repeat(m.getParameterCount()).replaceAll(",$", "") + ")");
                names.add(m.getName());
            }
        }
        CHECKS.holds("the face: " + faces, faces.equals(Set.of(METHODS)));
        for (Method m : BedsBySnore.class.getDeclaredMethods()) {
            CHECKS.holds(m + " has a name of its own",
                    !Modifier.isPrivate(m.getModifiers()) || !names.contains(m.getName()));
        }
    }

    /** What is asked here is what the document says now, not what it said once. */
    private static void asInTheDocument(String document) {
        Matcher m = Pattern.compile("public int (\\w+)\\(([^)]*)\\);").matcher(document);
        Set<String> faces = new TreeSet<>();
        while (m.find()) {
            faces.add(m.group(1) + "(" + m.group(2).replaceAll("int \\w+", "int").replace(" ", "") + ")");
        }
        CHECKS.holds("the document's face: " + faces, faces.equals(Set.of(METHODS)));
    }
}

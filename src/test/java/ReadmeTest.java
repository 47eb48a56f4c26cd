import java.io.File;
import java.io.IOException;
import java.lang.reflect.Method;
import java.nio.file.Files;
import java.nio.file.Path;
import java.util.Arrays;
import java.util.regex.Matcher;
import java.util.regex.Pattern;

/** README.md says what is so: its example is done line by line, its lists are compared. */
public final class ReadmeTest {
    private static final Checks CHECKS = new Checks("ReadmeTest");
    private static final String MADE = "BedsBySnore x = new BedsBySnore();";
    private static final Pattern WRITTEN = Pattern.compile("for \\(char c : \"([^\"]*)\"\\.toCharArray\\(\\)\\) \\{");
    private static final Pattern CALL = Pattern.compile("x\\.(\\w+)\\(([-0-9, ]*)\\); +// (-?[0-9]+|BAD|NO|FULL|NONE): .*");
    private static final Pattern FACE = Pattern.compile("public int (\\w+)\\(([^)]*)\\);");

    private static BedsBySnore x;

    public static void main(String[] args) throws ReflectiveOperationException, IOException {
        String readme = Files.readString(Path.of("README.md"));
        Matcher example = Pattern.compile("(?s)```java\n(.*?)```").matcher(readme);
        CHECKS.holds("there is an example", example.find());
        for (String line : example.group(1).split("\n")) {
            oneLine(line.trim());
        }
        constants(readme);
        everyCallIsTold(readme, Files.readString(Path.of(System.getProperty("document", "../shared/DOC.md"))));
        everyTestIsTold(readme);
        CHECKS.end();
    }

    private static void oneLine(String line) throws ReflectiveOperationException {
        Matcher written = WRITTEN.matcher(line);
        Matcher call = CALL.matcher(line);
        if (line.equals(MADE)) {
            x = new BedsBySnore();
        } else if (written.matches()) {
            Inns.add(x, written.group(1));
        } else if (call.matches()) {
            CHECKS.due(line, answer(call.group(1), call.group(2)), meant(call.group(3)));
        } else {
            CHECKS.holds("a line that is understood: " + line, line.matches("|x\\.write\\(c\\);|}"));
        }
    }

    private static int answer(String name, String told) throws ReflectiveOperationException {
        Integer[] numbers = told.isEmpty() ? new Integer[0]
                : Arrays.stream(told.split(", ")).map(Integer::valueOf).toArray(Integer[]::new);
        Class<?>[] types = new Class<?>[numbers.length];
        Arrays.fill(types, int.class);
        Method method = BedsBySnore.class.getMethod(name, types);
        return (Integer) method.invoke(x, (Object[]) numbers);
    }

    private static int meant(String told) throws ReflectiveOperationException {
        return told.matches("-?[0-9]+") ? Integer.parseInt(told) : BedsBySnore.class.getField(told).getInt(null);
    }

    private static void constants(String readme) throws ReflectiveOperationException {
        for (String name : new String[] {"BAD", "NO", "FULL", "NONE"}) {
            CHECKS.holds(name + " is told with its number", readme.contains("`" + name + "` (" + meant(name) + ")"));
        }
    }

    /** By the names of the document's face, and with the refusals of the promise. */
    private static void everyCallIsTold(String readme, String document) {
        Matcher face = FACE.matcher(document);
        int calls = 0;
        while (face.find()) {
            calls++;
            String call = face.group(1) + "(" + face.group(2).replace("int ", "") + ")";
            Matcher row = Pattern.compile("(?m)^\\| `" + Pattern.quote(call) + "` \\| (.*) \\|$").matcher(readme);
            boolean isTold = row.find();
            CHECKS.holds(call + " is told", isTold);
            String words = isTold ? row.group(1) : "";
            String promise = document.replaceAll("(?s).*## Promise [0-9]+: " + face.group(1) + "\n", "")
                    .replaceAll("(?s)\n## .*", "");
            for (String refusal : new String[] {"BAD", "NO", "FULL", "NONE"}) {
                Pattern word = Pattern.compile("\\b" + refusal + "\\b");
                CHECKS.due(call + " is told with " + refusal, word.matcher(words).find() ? 1 : 0,
                        word.matcher(promise).find() ? 1 : 0);
            }
        }
        CHECKS.due("calls of the face", calls, 27);
    }

    private static void everyTestIsTold(String readme) {
        String[] files = new File("src/test/java").list();
        CHECKS.holds("there are tests", files != null && files.length > 0);
        for (String file : files) {
            if (file.endsWith("Test.java")) {
                CHECKS.holds(file + " is told", readme.contains("- `" + file.replace(".java", "") + "`:"));
            }
        }
        Matcher told = Pattern.compile("(?m)^- `(\\w+)`:").matcher(readme);
        while (told.find()) {
            CHECKS.holds(told.group(1) + " is there", Arrays.asList(files).contains(told.group(1) + ".java"));
        }
    }
}

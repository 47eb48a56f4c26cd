import java.util.HashMap;
import java.util.List;
import java.util.Map;
import java.util.TreeMap;
import java.util.function.Consumer;
import java.util.function.IntUnaryOperator;
import java.util.function.Supplier;
import java.util.regex.Matcher;
import java.util.regex.Pattern;

/**
 * The document's sentences, each with the answers that are due by it. A sentence must stand in the
 * document word by word; at the end every number and every BAD, NO, NONE and FULL of the document
 * must stand in a sentence that was asked about.
 */
final class Sentences {
    private static final Pattern SECTION = Pattern.compile("(?ms)^## ([^\n:]*)[^\n]*\n(.*?)(?=^## |\\z)");
    private static final Pattern BOUND = Pattern.compile("[0-9]+|\\b(?:BAD|NO|NONE|FULL)\\b");
    private static final Pattern ASKED_ABOUT = Pattern.compile("What it is|Terms|Promise [0-9]+");
    private static final int[] FAR = {Integer.MIN_VALUE, Integer.MIN_VALUE + 1, -65536, -256, -32, -8, -4, -3, -2, -1,
        31, 32, 33, 63, 64, 128, 256, 65536, 1 << 30, Integer.MAX_VALUE - 1, Integer.MAX_VALUE};

    private final Checks checks;
    private final Map<String, String> sections = new TreeMap<>();
    private final Map<String, boolean[]> quoted = new HashMap<>();
    private String name = "no sentence";
    private int answers = 1;

    Sentences(String test, String document) {
        checks = new Checks(test);
        Matcher m = SECTION.matcher(document);
        while (m.find()) {
            if (ASKED_ABOUT.matcher(m.group(1)).matches()) {
                String body = m.group(2).replaceAll("(?m)^```.*$", " ").replaceAll("={8} [0-9]", " ")
                        .replaceAll("\\s+", " ");
                sections.put(m.group(1), body);
                quoted.put(m.group(1), new boolean[body.length()]);
            }
        }
        checks.due("sections of the document", sections.size(), 30);
    }

    /** What is asked from now on is due by this sentence. */
    void sentence(String section, String words) {
        checks.holds(name + " was asked about", answers > 0);
        answers = 0;
        name = section + " \"" + words + "\"";
        String body = sections.getOrDefault(section, "");
        int at = body.indexOf(words);
        checks.holds(name + " stands in the document", at >= 0);
        checks.holds(name + " stands there once", at == body.lastIndexOf(words));
        for (int k = Math.max(at, 0); at >= 0 && k < at + words.length(); k++) {
            quoted.get(section)[k] = true;
        }
    }

    void due(String call, long got, long want) {
        answers++;
        checks.due(name + " " + call, got, want);
    }

    void holds(String what, boolean so) {
        due(what, so ? 1 : 0, 1);
    }

    void same(String what, List<Integer> got, List<Integer> want) {
        due(what + ": answers", got.size(), want.size());
        for (int k = 0; k < Math.min(got.size(), want.size()); k++) {
            due(what + ": answer " + k, got.get(k), want.get(k));
        }
    }

    /** From low to high no number is BAD; one below, one above and far ones are. */
    void range(String call, int low, int high, IntUnaryOperator ask) {
        for (int number = low; number <= high; number++) {
            holds(call + " of " + number + " is not BAD", ask.applyAsInt(number) != BedsBySnore.BAD);
        }
        due(call + " of " + (low - 1), ask.applyAsInt(low - 1), BedsBySnore.BAD);
        due(call + " of " + (high + 1), ask.applyAsInt(high + 1), BedsBySnore.BAD);
        for (int number : FAR) {
            if (number < low || number > high) {
                due(call + " of " + number, ask.applyAsInt(number), BedsBySnore.BAD);
            }
        }
    }

    /** An inn answers all as another one, made alike, for which the calls were not done. */
    void unchanged(String calls, Supplier<BedsBySnore> made, Consumer<BedsBySnore> done) {
        BedsBySnore x = made.get();
        done.accept(x);
        same("nothing changes by " + calls, Inns.unwound(x), Inns.unwound(made.get()));
    }

    void end() {
        checks.holds(name + " was asked about", answers > 0);
        for (Map.Entry<String, String> section : sections.entrySet()) {
            Matcher m = BOUND.matcher(section.getValue());
            while (m.find()) {
                String place = section.getValue().substring(Math.max(0, m.start() - 30), m.end());
                checks.holds(section.getKey() + ", a bound with no test: .. " + place,
                        quoted.get(section.getKey())[m.start()]);
            }
        }
        checks.end();
    }
}

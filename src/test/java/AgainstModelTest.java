import java.util.Random;

/** Runs of drawn calls, each answered by the program and by the model. */
public final class AgainstModelTest {
    private static final int RUNS = 1500;
    private static final int CALLS = 512;
    private static final int[] EDGES = {Integer.MIN_VALUE, Integer.MAX_VALUE, -9, -2, 8, 9, 41, 10000, 65536};

    private final Checks checks = new Checks("AgainstModelTest");
    private final Random random;
    private BedsBySnore x;
    private Model m;
    private String run;
    private int calls;

    private AgainstModelTest(long seed) {
        random = new Random(seed);
    }

    public static void main(String[] args) {
        AgainstModelTest test = new AgainstModelTest(20261118L);
        for (int k = 0; k < RUNS && !test.checks.isSpoiled(); k++) {
            test.oneRun(k);
        }
        test.checks.end();
    }

    private void oneRun(int k) {
        x = new BedsBySnore();
        m = new Model();
        run = "run " + k + " ";
        calls = 0;
        if (random.nextInt(4) != 0) {
            writeText(drawText());
            due("lay()", x.lay(), m.lay());
        }
        while (calls < CALLS - 210 && !checks.isSpoiled()) {
            anyCall();
        }
    }

    private void due(String call, int got, int want) {
        calls++;
        checks.due(run + "call " + calls + " " + call, got, want);
    }

    /** A number from low to high, at times one beyond, at times a far one. */
    private int near(int low, int high) {
        int dice = random.nextInt(40);
        if (dice == 0) {
            return EDGES[random.nextInt(EDGES.length)];
        }
        if (dice == 1) {
            return low - 1;
        }
        return dice == 2 ? high + 1 : low + random.nextInt(high - low + 1);
    }

    private int someGuest() {
        return near(0, Math.max(0, m.count(0) - 1));
    }

    private int someBed() {
        return near(0, m.count(1) - 1);
    }

    private String drawText() {
        StringBuilder text = new StringBuilder();
        int beds = 6;
        if (random.nextInt(3) != 0) {
            beds = 2 + random.nextInt(5);
            text.append('n').append(beds).append(';');
        }
        int guests = Math.min(5, random.nextInt(4) == 0 ? 1 + random.nextInt(beds) : beds - 1);
        int shift = random.nextInt(beds);
        int light = 10 + random.nextInt(31);
        for (int g = 0; g < guests; g++) {
            int bed = random.nextInt(25) == 0 ? random.nextInt(7) : (shift + (beds == 5 ? 2 : 1) * g) % beds;
            text.append('g').append(random.nextInt(4)).append(',').append(random.nextInt(31)).append(',');
            text.append(random.nextInt(13)).append(',').append(1 + random.nextInt(light)).append(',');
            text.append(random.nextInt(10) == 0 ? "0" : "").append(bed).append(';');
        }
        for (int w = random.nextInt(4); w > 0; w--) {
            text.append('w').append(random.nextInt(random.nextInt(15) == 0 ? 7 : beds - 1)).append(';');
        }
        if (random.nextBoolean()) {
            text.append('c').append(random.nextInt(random.nextInt(10) == 0 ? 45 : 25)).append(';');
        }
        if (random.nextInt(3) != 0) {
            text.append('r').append(random.nextInt(random.nextInt(10) == 0 ? 15 : 13)).append(';');
        }
        if (random.nextInt(4) == 0) {
            int at = random.nextInt(text.length());
            text.setCharAt(at, "ngwcr0123456789,; x".charAt(random.nextInt(19)));
        }
        return text.toString();
    }

    private void writeText(String text) {
        due("wipe()", x.wipe(), m.wipe());
        for (char c : text.toCharArray()) {
            due("write(" + (int) c + ")", x.write(c), m.write(c));
        }
    }

    private void anyCall() {
        int a = someGuest();
        int b = someBed();
        switch (random.nextInt(40)) {
            case 0 -> textCalls();
            case 1, 2, 3 -> {
                int what = near(0, 7);
                due("guest(" + a + ", " + what + ")", x.guest(a, what), m.guest(a, what));
            }
            case 4 -> due("bed(" + b + ")", x.bed(b), m.bed(b));
            case 5 -> due("wall(" + b + ")", x.wall(b), m.wall(b));
            case 6, 7, 8, 9, 10 -> due("carry(" + a + ", " + b + ")", x.carry(a, b), m.carry(a, b));
            case 11, 12 -> due("stuff(" + b + ")", x.stuff(b), m.stuff(b));
            case 13 -> due("hour()", x.hour(), m.hour());
            case 14, 15, 16 -> due("undo()", x.undo(), m.undo());
            case 17 -> lawCalls();
            case 18, 19 -> wouldBeCalls();
            case 20, 21, 22 -> {
                int hour = near(-1, 7);
                due("night(" + hour + ")", x.night(hour), m.night(hour));
            }
            case 23, 24, 25 -> heardCalls(a);
            case 26, 27 -> due("feigned()", x.feigned(), m.feigned());
            case 28 -> due("hums(" + a + ")", x.hums(a), m.hums(a));
            case 29, 30, 31 -> {
                int chance = near(0, 10);
                int part = near(0, 1);
                due("odds(" + a + ", " + chance + ", " + part + ")", x.odds(a, chance, part),
                        m.odds(a, chance, part));
            }
            case 32, 33 -> {
                int what = near(0, 2);
                due("steps(" + what + ")", x.steps(what), m.steps(what));
            }
            case 34 -> dayCall();
            case 35 -> due("keep()", x.keep(), m.keep());
            case 36 -> due("back()", x.back(), m.back());
            default -> {
                int what = near(0, 7);
                due("count(" + what + ")", x.count(what), m.count(what));
            }
        }
    }

    private void textCalls() {
        switch (random.nextInt(5)) {
            case 0 -> {
                if (calls < 250) {
                    writeText(drawText());
                }
            }
            case 1 -> due("fault()", x.fault(), m.fault());
            case 2 -> due("lay()", x.lay(), m.lay());
            default -> {
                int letter = near(32, 126);
                due("write(" + letter + ")", x.write(letter), m.write(letter));
            }
        }
    }

    private void lawCalls() {
        int i = near(-1, 4);
        due("law(" + i + ")", x.law(i), m.law(i));
        int what = near(0, 1);
        due("moves(" + what + ")", x.moves(what), m.moves(what));
    }

    private void wouldBeCalls() {
        int i = near(-1, 4);
        switch (random.nextInt(3)) {
            case 0 -> {
                int hour = near(0, 7);
                due("best(" + hour + ", " + i + ")", x.best(hour, i), m.best(hour, i));
            }
            case 1 -> {
                int d = near(0, 40);
                due("within(" + d + ", " + i + ")", x.within(d, i), m.within(d, i));
            }
            default -> {
                int what = near(0, 1);
                due("wallTo(" + what + ")", x.wallTo(what), m.wallTo(what));
            }
        }
    }

    /** Mostly what is so, else nobody would ever fit what was heard. */
    private void heardCalls(int i) {
        if (random.nextInt(6) == 0) {
            due("forget()", x.forget(), m.forget());
            return;
        }
        int hour = near(0, 7);
        int woke = near(0, 1);
        if (random.nextInt(3) != 0 && hour >= 0 && hour < 8 && i >= 0 && i < 5) {
            woke = m.night(hour) >> i & 1;
        }
        due("heard(" + i + ", " + hour + ", " + woke + ")", x.heard(i, hour, woke), m.heard(i, hour, woke));
    }

    private void dayCall() {
        int z = near(0, 9999);
        int n = near(1, 30);
        int what = near(0, 1);
        due("day(" + z + ", " + n + ", " + what + ")", x.day(z, n, what), m.day(z, n, what));
    }
}

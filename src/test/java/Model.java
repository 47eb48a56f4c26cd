import java.math.BigInteger;
import java.util.ArrayDeque;
import java.util.ArrayList;
import java.util.Arrays;
import java.util.Deque;
import java.util.HashMap;
import java.util.LinkedList;
import java.util.List;
import java.util.Map;
import java.util.function.Predicate;
import java.util.regex.Matcher;
import java.util.regex.Pattern;

/**
 * The document once more, in other words than the program's: beds hold guests (not guests beds),
 * texts are read by patterns, ways are gone through by recursion, the search goes forwards.
 */
final class Model {
    static final int BAD = -1, NO = -2, FULL = -3, NONE = -4;

    record Guest(int kind, int loud, int note, int light, int bed) {
        Guest of(int otherKind) {
            return new Guest(otherKind, loud, note, light, bed);
        }
    }

    record Inn(int beds, List<Guest> guests, boolean[] walls, int porters, int note, int fault) { }

    record Report(int guest, int hour, boolean woke) { }

    /** in[b] is the guest in bed b, or -1. */
    record State(int[] in, boolean[] walls, int hour, int steps, int carried, int woken) {
        State with(int[] otherIn) {
            return new State(otherIn, walls, hour, steps, carried, woken);
        }
    }

    private static final Pattern ITEM = Pattern.compile("([ngwcr])([0-9]{1,2}(?:,[0-9]{1,2})*);");

    private final StringBuilder text = new StringBuilder();
    private Inn inn;
    private State now;
    private final LinkedList<State> undos = new LinkedList<>();
    private final Deque<State> kept = new ArrayDeque<>();
    private final List<Report> reports = new ArrayList<>();

    Model() {
        settle(read("n6;g0,12,3,9,0;g1,8,7,6,1;g2,10,0,14,3;g3,6,10,5,4;w3;c8;r7;"));
    }

    // ---- texts

    static Inn read(String text) {
        int beds = 6, porters = 8, note = 7, at = 0;
        List<Guest> guests = new ArrayList<>();
        boolean[] walls = new boolean[6];
        String before = "";
        Matcher m = ITEM.matcher(text);
        while (at < text.length()) {
            m.region(at, text.length());
            if (!m.lookingAt()) {
                return new Inn(beds, guests, walls, porters, note, at);
            }
            int[] v = Arrays.stream(m.group(2).split(",")).mapToInt(Integer::parseInt).toArray();
            boolean so;
            switch (m.group(1)) {
                case "n" -> {
                    so = v.length == 1 && v[0] >= 2 && v[0] <= 6 && before.matches("n*");
                    if (so) {
                        beds = v[0];
                    }
                }
                case "g" -> {
                    int bed = v[v.length - 1];
                    so = v.length == 5 && v[0] <= 3 && v[1] <= 30 && v[2] <= 12 && v[3] >= 1 && v[3] <= 40
                            && bed < beds && guests.stream().noneMatch(g -> g.bed() == bed)
                            && guests.size() < 5 && guests.size() + 1 < beds;
                    if (so) {
                        guests.add(new Guest(v[0], v[1], v[2], v[3], v[4]));
                    }
                }
                case "w" -> {
                    so = v.length == 1 && v[0] <= 4 && v[0] != beds - 1 && v[0] < beds;
                    if (so) {
                        walls[v[0]] = true;
                    }
                }
                case "c" -> {
                    so = v.length == 1 && v[0] <= 40;
                    porters = v[0];
                }
                default -> {
                    so = v.length == 1 && v[0] <= 12;
                    note = v[0];
                }
            }
            if (!so) {
                return new Inn(beds, guests, walls, porters, note, at);
            }
            before += m.group(1);
            at = m.end();
        }
        return new Inn(beds, guests, walls, porters, note, NONE);
    }

    private void settle(Inn other) {
        inn = other;
        int[] in = new int[inn.beds()];
        Arrays.fill(in, -1);
        for (int g = 0; g < inn.guests().size(); g++) {
            in[inn.guests().get(g).bed()] = g;
        }
        now = new State(in, inn.walls().clone(), 0, 0, 0, 0);
        undos.clear();
        kept.clear();
        reports.clear();
    }

    int write(int letter) {
        if (letter < 32 || letter > 126) {
            return BAD;
        }
        if (text.length() == 200) {
            return FULL;
        }
        text.append((char) letter);
        return text.length();
    }

    int wipe() {
        int length = text.length();
        text.setLength(0);
        return length;
    }

    int fault() {
        return read(text.toString()).fault();
    }

    int lay() {
        Inn other = read(text.toString());
        if (other.fault() != NONE || other.guests().isEmpty()) {
            return NO;
        }
        settle(other);
        return inn.guests().size();
    }

    // ---- what is so

    private static int bedOf(int g, int[] in) {
        for (int b = 0; b < in.length; b++) {
            if (in[b] == g) {
                return b;
            }
        }
        throw new IllegalStateException();
    }

    private static int loud(Guest g, int hour) {
        return switch (g.kind()) {
            case 0 -> g.loud();
            case 1 -> Math.min(40, g.loud() + 14 - 2 * hour);
            case 2 -> hour % 2 == 1 ? 0 : g.loud();
            default -> hour < 3 ? g.loud() + 10 : g.loud();
        };
    }

    private boolean hum(Guest a, Guest b) {
        int r = inn.note();
        return a.note() - b.note() == r || b.note() - a.note() == r || a.note() + b.note() == r;
    }

    private int hears(int g, List<Guest> guests, State s, int hour, Predicate<Integer> snores) {
        int bed = bedOf(g, s.in());
        int sum = 0;
        for (int b : new int[] {bed - 1, bed + 1}) {
            if (b >= 0 && b < s.in().length && s.in()[b] >= 0 && snores.test(s.in()[b])) {
                Guest other = guests.get(s.in()[b]);
                boolean muffled = s.walls()[b < bed ? b : bed];
                sum += muffled ? loud(other, hour) >> 1 : loud(other, hour);
                sum += hum(guests.get(g), other) ? 4 : 0;
            }
        }
        return sum;
    }

    private boolean wakes(int g, List<Guest> guests, State s, int hour) {
        return hears(g, guests, s, hour, j -> true) >= guests.get(g).light();
    }

    private int wakers(State s, int hour) {
        int bits = 0;
        for (int g = 0; g < inn.guests().size(); g++) {
            bits += wakes(g, inn.guests(), s, hour) ? 1 << g : 0;
        }
        return bits;
    }

    private int nightlong(State s) {
        int sum = 0;
        for (int h = 0; h < 8; h++) {
            sum += Integer.bitCount(wakers(s, h));
        }
        return sum;
    }

    private boolean isGuest(int g) {
        return g >= 0 && g < inn.guests().size();
    }

    private boolean isWall(int p) {
        return p >= 0 && p <= inn.beds() - 2;
    }

    int guest(int i, int what) {
        if (!isGuest(i) || what < 0 || what > 7) {
            return BAD;
        }
        Guest g = inn.guests().get(i);
        int hears = hears(i, inn.guests(), now, now.hour(), j -> true);
        return new int[] {g.kind(), g.loud(), g.note(), g.light(), bedOf(i, now.in()), loud(g, now.hour()),
            hears, hears >= g.light() ? 1 : 0}[what];
    }

    int bed(int b) {
        return b < 0 || b >= inn.beds() ? BAD : now.in()[b] < 0 ? NONE : now.in()[b];
    }

    int wall(int p) {
        return !isWall(p) ? BAD : now.walls()[p] ? 1 : 0;
    }

    // ---- acts

    private void act(State next) {
        undos.addLast(now);
        if (undos.size() > 8) {
            undos.removeFirst();
        }
        now = next;
    }

    private int passed(State s, int from, int to) {
        int bits = 0;
        for (int b = Math.min(from, to) + 1; b < Math.max(from, to); b++) {
            int g = s.in()[b];
            if (g >= 0 && inn.guests().get(g).light() <= inn.porters()) {
                bits |= 1 << g;
            }
        }
        return bits;
    }

    private State carried(State s, int i, int b) {
        int from = bedOf(i, s.in());
        int[] in = s.in().clone();
        in[from] = -1;
        in[b] = i;
        return new State(in, s.walls(), s.hour(), s.steps() + Math.abs(from - b), s.carried() + 1,
                s.woken() + Integer.bitCount(passed(s, from, b)));
    }

    private static State later(State s) {
        return new State(s.in(), s.walls(), s.hour() == 7 ? 7 : s.hour() + 1, s.steps(), s.carried(), s.woken());
    }

    private static State turned(State s, int p) {
        boolean[] walls = s.walls().clone();
        walls[p] = !walls[p];
        return new State(s.in(), walls, s.hour(), s.steps(), s.carried(), s.woken());
    }

    int carry(int i, int b) {
        if (!isGuest(i) || b < 0 || b >= inn.beds()) {
            return BAD;
        }
        if (now.in()[b] >= 0) {
            return NO;
        }
        int woke = passed(now, bedOf(i, now.in()), b);
        act(carried(now, i, b));
        return woke;
    }

    int stuff(int p) {
        if (!isWall(p)) {
            return BAD;
        }
        act(turned(now, p));
        return wall(p);
    }

    int hour() {
        act(later(now));
        return now.hour();
    }

    int undo() {
        if (undos.isEmpty()) {
            return NO;
        }
        now = undos.removeLast();
        return undos.size();
    }

    // ---- the law

    private int[] lawBeds() {
        List<Integer> order = new ArrayList<>();
        for (int g = 0; g < inn.guests().size(); g++) {
            order.add(g);
        }
        order.sort((a, b) -> loud(inn.guests().get(b), now.hour()) - loud(inn.guests().get(a), now.hour()));
        int last = inn.beds() - 1;
        int[] by = {0, last, 1, last - 1, 2};
        int[] in = new int[inn.beds()];
        Arrays.fill(in, -1);
        for (int k = 0; k < order.size(); k++) {
            in[by[k]] = order.get(k);
        }
        return in;
    }

    int law(int i) {
        if (i == -1) {
            return Arrays.equals(lawBeds(), now.in()) ? 1 : 0;
        }
        return isGuest(i) ? bedOf(i, lawBeds()) : BAD;
    }

    /** Forwards in order: the first way that comes to a place in fewest carries is the first of all. */
    int moves(int what) {
        if (what != 0 && what != 1) {
            return BAD;
        }
        Map<String, int[]> seen = new HashMap<>();
        Deque<State> open = new ArrayDeque<>();
        String wanted = Arrays.toString(lawBeds());
        seen.put(Arrays.toString(now.in()), new int[] {0, NONE});
        open.add(now);
        while (!open.isEmpty()) {
            State s = open.removeFirst();
            int[] here = seen.get(Arrays.toString(s.in()));
            for (int g = 0; g < inn.guests().size(); g++) {
                for (int b = 0; b < inn.beds(); b++) {
                    if (s.in()[b] < 0 && passed(s, bedOf(g, s.in()), b) == 0) {
                        State next = carried(s, g, b);
                        int first = here[0] == 0 ? 8 * g + b : here[1];
                        if (seen.putIfAbsent(Arrays.toString(next.in()), new int[] {here[0] + 1, first}) == null) {
                            open.addLast(next);
                        }
                    }
                }
            }
        }
        int[] there = seen.get(wanted);
        return there == null ? NONE : there[what];
    }

    // ---- what would be

    private List<int[]> allWays() {
        List<int[]> ways = new ArrayList<>();
        int[] in = new int[inn.beds()];
        Arrays.fill(in, -1);
        fill(0, in, ways);
        return ways;
    }

    private void fill(int g, int[] in, List<int[]> ways) {
        if (g == inn.guests().size()) {
            ways.add(in.clone());
            return;
        }
        for (int b = 0; b < in.length; b++) {
            if (in[b] < 0) {
                in[b] = g;
                fill(g + 1, in, ways);
                in[b] = -1;
            }
        }
    }

    int best(int hour, int i) {
        if (hour < 0 || hour > 7 || (i != -1 && !isGuest(i))) {
            return BAD;
        }
        int[] best = null;
        int fewest = 99;
        for (int[] in : allWays()) {
            int woken = Integer.bitCount(wakers(now.with(in), hour));
            if (woken < fewest) {
                fewest = woken;
                best = in;
            }
        }
        return i == -1 ? fewest : bedOf(i, best);
    }

    int wallTo(int what) {
        if (what != 0 && what != 1) {
            return BAD;
        }
        int which = NONE, fewest = 999;
        for (int p = 0; p < inn.beds() - 1; p++) {
            if (!now.walls()[p] && nightlong(turned(now, p)) < fewest) {
                fewest = nightlong(turned(now, p));
                which = p;
            }
        }
        return what == 0 || which == NONE ? which : fewest;
    }

    int within(int d, int i) {
        if (d < 0 || d > 40 || (i != -1 && !isGuest(i))) {
            return BAD;
        }
        List<int[]> good = new ArrayList<>();
        for (int[] in : allWays()) {
            boolean so = true;
            for (int b = 1; b < in.length; b++) {
                if (in[b] >= 0 && in[b - 1] >= 0) {
                    int a = loud(inn.guests().get(in[b]), now.hour());
                    int c = loud(inn.guests().get(in[b - 1]), now.hour());
                    so &= a - c <= d && c - a <= d;
                }
            }
            if (so) {
                good.add(in);
            }
        }
        return good.isEmpty() ? NONE : i == -1 ? good.size() : bedOf(i, good.get(0));
    }

    int night(int hour) {
        return hour == -1 ? nightlong(now) : hour < 0 || hour > 7 ? BAD : wakers(now, hour);
    }

    // ---- what was heard

    int heard(int i, int hour, int woke) {
        if (!isGuest(i) || hour < 0 || hour > 7 || woke < 0 || woke > 1) {
            return BAD;
        }
        if (reports.size() == 8) {
            return FULL;
        }
        reports.add(new Report(i, hour, woke == 1));
        return reports.size();
    }

    int forget() {
        int size = reports.size();
        reports.clear();
        return size;
    }

    int feigned() {
        int bits = 0;
        for (int g = 0; g < inn.guests().size(); g++) {
            List<Guest> guests = new ArrayList<>();
            for (Guest told : inn.guests()) {
                int kind = guests.size() == g ? 3 : told.kind() == 3 ? 0 : told.kind();
                guests.add(told.of(kind));
            }
            if (reports.stream().allMatch(r -> wakes(r.guest(), guests, now, r.hour()) == r.woke())) {
                bits |= 1 << g;
            }
        }
        return bits;
    }

    int hums(int i) {
        if (!isGuest(i)) {
            return BAD;
        }
        int bits = 0;
        for (int b = 0; b < inn.beds(); b++) {
            int g = now.in()[b];
            if (g >= 0 && Math.abs(b - bedOf(i, now.in())) == 1 && hum(inn.guests().get(i), inn.guests().get(g))) {
                bits |= 1 << g;
            }
        }
        return bits;
    }

    int odds(int i, int x, int part) {
        if (!isGuest(i) || x < 0 || x > 10 || part < 0 || part > 1) {
            return BAD;
        }
        int n = inn.guests().size();
        BigInteger quiet = BigInteger.ZERO;
        for (int set = 0; set < 1 << n; set++) {
            int snorers = set;
            if ((set >> i & 1) == 0
                    && hears(i, inn.guests(), now, now.hour(), j -> (snorers >> j & 1) == 1)
                    < inn.guests().get(i).light()) {
                int k = Integer.bitCount(set);
                quiet = quiet.add(BigInteger.valueOf(x).pow(k).multiply(BigInteger.valueOf(10 - x).pow(n - 1 - k)));
            }
        }
        BigInteger all = BigInteger.TEN.pow(n - 1);
        BigInteger shared = quiet.gcd(all);
        return (part == 0 ? quiet : all).divide(shared).intValueExact();
    }

    int steps(int what) {
        return what < 0 || what > 2 ? BAD : new int[] {now.steps(), now.carried(), now.woken()}[what];
    }

    int day(int z, int n, int what) {
        if (z < 0 || z > 9999 || n < 1 || n > 30 || what < 0 || what > 1) {
            return BAD;
        }
        State s = now;
        int woke = 0;
        for (int t = 0; t < n; t++) {
            BigInteger x = BigInteger.valueOf(7919L * z).add(BigInteger.valueOf(6151L * t)).add(BigInteger.ONE);
            int draw = x.pow(2).mod(BigInteger.valueOf(65521)).intValue() / 4;
            int g = draw % inn.guests().size();
            int b = (draw / 8) % inn.beds();
            if (s.in()[b] < 0) {
                woke += Integer.bitCount(passed(s, bedOf(g, s.in()), b));
                s = carried(s, g, b);
            }
            s = (t + 1) % 4 == 0 ? later(s) : s;
        }
        return what == 0 ? woke : Integer.bitCount(wakers(s, s.hour()));
    }

    // ---- kept

    int keep() {
        if (kept.size() == 2) {
            return FULL;
        }
        kept.push(now);
        return kept.size();
    }

    int back() {
        if (kept.isEmpty()) {
            return NO;
        }
        now = kept.pop();
        undos.clear();
        return kept.size();
    }

    int count(int what) {
        int walls = 0;
        for (boolean stuffed : now.walls()) {
            walls += stuffed ? 1 : 0;
        }
        int[] counts = {inn.guests().size(), inn.beds(), now.hour(), walls, reports.size(), undos.size(), kept.size(),
            text.length()};
        return what < 0 || what > 7 ? BAD : counts[what];
    }
}

import java.util.Arrays;

/**
 * Beds by snore: an inn whose guests are carried to other beds by how loud they snore.
 *
 * <p>Everything that a call needs is made once, in the constructor: no call makes an object.
 */
public final class BedsBySnore {
    public static final int BAD = -1, NO = -2, FULL = -3, NONE = -4;

    private static final int MOST_BEDS = 6;
    private static final int FEWEST_BEDS = 2;
    private static final int MOST_GUESTS = 5;
    private static final int MOST_LETTERS = 200;
    private static final int MOST_UNDOS = 8;
    private static final int MOST_KEPT = 2;
    private static final int MOST_HEARD = 8;
    private static final int LAST_HOUR = 7;
    private static final int MOST_APART = 40;
    private static final int MOST_TRIES = 30;
    private static final int MOST_SEED = 9999;
    private static final int TEN = 10;

    /** 6 times 5 times 4 times 3 times 2: the ways to lay five guests in six beds. */
    private static final int MOST_WAYS = 720;

    private static final int PLAIN = 0;
    private static final int DRUNK = 1;
    private static final int FITFUL = 2;
    private static final int FEIGNING = 3;

    /** As an argument in a guest's or an hour's stead: the whole is asked for. */
    private static final int WHOLE = -1;

    private static final String FIRST_INN =
            "n6;g0,12,3,9,0;g1,8,7,6,1;g2,10,0,14,3;g3,6,10,5,4;w3;c8;r7;";

    private final Text text = new Text();
    private final Reports reports = new Reports();
    private final Ways ways = new Ways();
    private final Search search = new Search();
    private final Shelf undos = new Shelf(MOST_UNDOS);
    private final Shelf kept = new Shelf(MOST_KEPT);

    /** How all lie now, and a second one to try things in. */
    private final Lie now = new Lie();
    private final Lie tried = new Lie();

    /** The inn that is laid; one to read texts into; one whose guests' kinds are supposed. */
    private Inn inn = new Inn();
    private Inn read = new Inn();
    private final Inn supposed = new Inn();

    public BedsBySnore() {
        for (int k = 0; k < FIRST_INN.length(); k++) {
            text.add(FIRST_INN.charAt(k));
        }
        if (text.readInto(read) == NONE) {
            moveIn();
        }
        text.clear();
    }

    // ---- inns

    public int write(int letter) {
        if (letter < 32 || letter > 126) {
            return BAD;
        }
        return text.add(letter) ? text.length() : FULL;
    }

    public int wipe() {
        int length = text.length();
        text.clear();
        return length;
    }

    public int fault() {
        return text.readInto(read);
    }

    public int lay() {
        if (text.readInto(read) != NONE || read.guests() == 0) {
            return NO;
        }
        moveIn();
        return inn.guests();
    }

    public int guest(int i, int what) {
        if (!inn.hasGuest(i)) {
            return BAD;
        }
        switch (what) {
            case 0: return inn.kindOf(i);
            case 1: return inn.strengthOf(i);
            case 2: return inn.noteOf(i);
            case 3: return inn.lightnessOf(i);
            case 4: return now.placeOf(i);
            case 5: return inn.loudness(i, now.hour);
            case 6: return inn.hearing(i, now, now.hour);
            case 7: return inn.isWoken(i, now, now.hour) ? 1 : 0;
            default: return BAD;
        }
    }

    public int bed(int b) {
        return inn.hasBed(b) ? now.guestIn(b, inn.guests()) : BAD;
    }

    public int wall(int p) {
        if (!inn.hasWall(p)) {
            return BAD;
        }
        return now.isStuffed(p) ? 1 : 0;
    }

    // ---- acts

    public int carry(int i, int b) {
        if (!inn.hasGuest(i) || !inn.hasBed(b)) {
            return BAD;
        }
        if (!now.isEmpty(b, inn.guests())) {
            return NO;
        }
        undos.put(now);
        return carryIn(now, i, b);
    }

    public int stuff(int p) {
        if (!inn.hasWall(p)) {
            return BAD;
        }
        undos.put(now);
        now.turnWall(p);
        return now.isStuffed(p) ? 1 : 0;
    }

    public int hour() {
        undos.put(now);
        now.passHour();
        return now.hour;
    }

    public int undo() {
        return undos.takeInto(now) ? undos.size() : NO;
    }

    // ---- the law

    public int law(int i) {
        if (i == WHOLE) {
            return isLawful() ? 1 : 0;
        }
        return inn.hasGuest(i) ? inn.lawfulBed(i, now.hour) : BAD;
    }

    public int moves(int what) {
        if (what != 0 && what != 1) {
            return BAD;
        }
        search.measure(inn, now, ways);
        int needed = search.distanceOf(now.places, ways);
        if (what == 0 || needed == NONE) {
            return needed;
        }
        return needed == 0 ? NONE : search.firstMove(inn, now, ways);
    }

    // ---- what would be

    public int best(int hour, int i) {
        if (!isHour(hour) || !isGuestOrWhole(i)) {
            return BAD;
        }
        int fewest = MOST_GUESTS + 1;
        int first = 0;
        tried.copy(now);
        for (int way = 0; way < ways.total() && fewest > 0; way++) {
            ways.spread(way, tried.places);
            int woken = Integer.bitCount(inn.wakers(tried, hour));
            if (woken < fewest) {
                fewest = woken;
                first = way;
            }
        }
        return i == WHOLE ? fewest : placeInWay(first, i);
    }

    public int wallTo(int what) {
        if (what != 0 && what != 1) {
            return BAD;
        }
        int which = NONE;
        int fewest = NONE;
        for (int p = 0; p < inn.beds() - 1; p++) {
            if (!now.isStuffed(p)) {
                tried.copy(now);
                tried.turnWall(p);
                int woken = inn.wakingsOfNight(tried);
                if (which == NONE || woken < fewest) {
                    fewest = woken;
                    which = p;
                }
            }
        }
        return what == 0 ? which : fewest;
    }

    public int within(int d, int i) {
        if (d < 0 || d > MOST_APART || !isGuestOrWhole(i)) {
            return BAD;
        }
        int found = 0;
        int first = 0;
        tried.copy(now);
        for (int way = 0; way < ways.total(); way++) {
            ways.spread(way, tried.places);
            if (inn.isEven(tried, now.hour, d)) {
                if (found == 0) {
                    first = way;
                }
                found++;
            }
        }
        if (found == 0) {
            return NONE;
        }
        return i == WHOLE ? found : placeInWay(first, i);
    }

    public int night(int hour) {
        if (hour == WHOLE) {
            return inn.wakingsOfNight(now);
        }
        return isHour(hour) ? inn.wakers(now, hour) : BAD;
    }

    // ---- what was heard

    public int heard(int i, int hour, int woke) {
        if (!inn.hasGuest(i) || !isHour(hour) || (woke != 0 && woke != 1)) {
            return BAD;
        }
        return reports.add(i, hour, woke == 1) ? reports.size() : FULL;
    }

    public int forget() {
        int size = reports.size();
        reports.clear();
        return size;
    }

    public int feigned() {
        int bits = 0;
        for (int i = 0; i < inn.guests(); i++) {
            supposed.copy(inn);
            supposed.supposeFeigning(i);
            if (reports.allHold(supposed, now)) {
                bits |= 1 << i;
            }
        }
        return bits;
    }

    public int hums(int i) {
        return inn.hasGuest(i) ? inn.nextHummers(i, now) : BAD;
    }

    public int odds(int i, int x, int part) {
        if (!inn.hasGuest(i) || x < 0 || x > TEN || (part != 0 && part != 1)) {
            return BAD;
        }
        return partInLowestTerms(quietHundredths(i, x), TEN * TEN, part);
    }

    public int steps(int what) {
        switch (what) {
            case 0: return now.steps;
            case 1: return now.carried;
            case 2: return now.woken;
            default: return BAD;
        }
    }

    public int day(int z, int n, int what) {
        if (z < 0 || z > MOST_SEED || n < 1 || n > MOST_TRIES || (what != 0 && what != 1)) {
            return BAD;
        }
        tried.copy(now);
        for (int k = 0; k < n; k++) {
            tryDraw(drawOf(z, k));
            if (k % 4 == 3) {
                tried.passHour();
            }
        }
        if (what == 0) {
            return tried.woken - now.woken;
        }
        return Integer.bitCount(inn.wakers(tried, tried.hour));
    }

    // ---- kept

    public int keep() {
        if (kept.isFull()) {
            return FULL;
        }
        kept.put(now);
        return kept.size();
    }

    public int back() {
        if (!kept.takeInto(now)) {
            return NO;
        }
        undos.clear();
        return kept.size();
    }

    public int count(int what) {
        switch (what) {
            case 0: return inn.guests();
            case 1: return inn.beds();
            case 2: return now.hour;
            case 3: return Integer.bitCount(now.walls);
            case 4: return reports.size();
            case 5: return undos.size();
            case 6: return kept.size();
            case 7: return text.length();
            default: return BAD;
        }
    }

    // ---- helpers

    /** The inn that was read is the one that is laid; the old one is read into from now on. */
    private void moveIn() {
        Inn old = inn;
        inn = read;
        read = old;
        now.begin(inn);
        ways.fit(inn.beds(), inn.guests());
        undos.clear();
        kept.clear();
        reports.clear();
    }

    private static boolean isHour(int hour) {
        return hour >= 0 && hour <= LAST_HOUR;
    }

    private boolean isGuestOrWhole(int i) {
        return i == WHOLE || inn.hasGuest(i);
    }

    private boolean isLawful() {
        for (int i = 0; i < inn.guests(); i++) {
            if (now.placeOf(i) != inn.lawfulBed(i, now.hour)) {
                return false;
            }
        }
        return true;
    }

    private int placeInWay(int way, int i) {
        ways.spread(way, tried.places);
        return tried.placeOf(i);
    }

    private int carryIn(Lie lie, int i, int b) {
        int woken = inn.roused(i, b, lie);
        lie.move(i, b, Integer.bitCount(woken));
        return woken;
    }

    private void tryDraw(int draw) {
        if (inn.guests() < 1 || inn.beds() < 1) {
            return;
        }
        int i = draw % inn.guests();
        int b = draw / 8 % inn.beds();
        if (tried.isEmpty(b, inn.guests())) {
            carryIn(tried, i, b);
        }
    }

    /** The square goes far beyond an int. */
    private static int drawOf(int z, int k) {
        long x = 7919L * z + 6151L * k + 1;
        return (int) (x * x % 65521 / 4);
    }

    /**
     * How many hundredths of the cases leave a guest asleep. Only the two next to him count; an
     * empty side is a neighbour of whom nothing is heard whether he snores or not.
     */
    private int quietHundredths(int i, int x) {
        int left = soundFromBed(now.placeOf(i) - 1, i);
        int right = soundFromBed(now.placeOf(i) + 1, i);
        int light = inn.lightnessOf(i);
        int quiet = (TEN - x) * (TEN - x);
        if (left < light) {
            quiet += x * (TEN - x);
        }
        if (right < light) {
            quiet += (TEN - x) * x;
        }
        if (left + right < light) {
            quiet += x * x;
        }
        return quiet;
    }

    private int soundFromBed(int b, int i) {
        int other = inn.hasBed(b) ? now.guestIn(b, inn.guests()) : NONE;
        return inn.hasGuest(other) ? inn.soundOf(other, i, now, now.hour) : 0;
    }

    /** The greatest divisor first: what is nothing becomes 0 of 1 by it. */
    private static int partInLowestTerms(int above, int below, int part) {
        int asked = part == 0 ? above : below;
        for (int d = below; d > 1; d--) {
            if (below % d == 0 && above % d == 0) {
                return asked / d;
            }
        }
        return asked;
    }

    /** THE TEXT, and the reading of it. */
    private static final class Text {
        private static final int MOST_NUMBERS = 5;

        private final int[] letters = new int[MOST_LETTERS];
        private int length;

        private final int[] numbers = new int[MOST_NUMBERS];
        private int told;

        int length() {
            return length;
        }

        void clear() {
            length = 0;
        }

        boolean add(int letter) {
            if (length >= letters.length) {
                return false;
            }
            letters[length] = letter;
            length++;
            return true;
        }

        /** Answers the place of the first item that is not so, or NONE. */
        int readInto(Inn into) {
            into.clear();
            int next = 0;
            for (int at = 0; at < length; at = next) {
                next = readNumbers(at + 1);
                if (next <= at || !tell(letterAt(at), into)) {
                    return at;
                }
            }
            return NONE;
        }

        /** Letters behind the text's end are none that an item has. */
        private int letterAt(int at) {
            return at >= 0 && at < length && at < letters.length ? letters[at] : 0;
        }

        private boolean isFigure(int at) {
            return letterAt(at) >= '0' && letterAt(at) <= '9';
        }

        /** Answers the place behind the item's semicolon, or NONE. */
        private int readNumbers(int from) {
            int at = from;
            for (int k = 0; k < numbers.length; k++) {
                if (!isFigure(at)) {
                    return NONE;
                }
                numbers[k] = letterAt(at) - '0';
                at++;
                if (isFigure(at)) {
                    numbers[k] = numbers[k] * 10 + letterAt(at) - '0';
                    at++;
                }
                told = k + 1;
                if (letterAt(at) == ';') {
                    return at + 1;
                }
                if (letterAt(at) != ',') {
                    return NONE;
                }
                at++;
            }
            return NONE;
        }

        private boolean tell(int letter, Inn into) {
            if (letter == 'g') {
                return told == numbers.length && into.addGuest(numbers);
            }
            if (told != 1) {
                return false;
            }
            switch (letter) {
                case 'n': return into.setBeds(numbers[0]);
                case 'w': return into.stuffWall(numbers[0]);
                case 'c': return into.setPorters(numbers[0]);
                case 'r': return into.setNote(numbers[0]);
                default: return false;
            }
        }
    }

    /** What a text tells of an inn, and what follows from it for a given way to lie. */
    private static final class Inn {
        private static final int BEDS_UNTOLD = 6;
        private static final int PORTERS_UNTOLD = 8;
        private static final int NOTE_UNTOLD = 7;
        private static final int MOST_STRENGTH = 30;
        private static final int MOST_NOTE = 12;
        private static final int MOST_LIGHTNESS = 40;
        private static final int MOST_PORTERS = 40;
        private static final int MOST_DRUNK = 40;
        private static final int FEIGNED_MORE = 10;
        private static final int LAST_FEIGNED_HOUR = 2;
        private static final int HUM = 4;

        private final int[] kinds = new int[MOST_GUESTS];
        private final int[] strengths = new int[MOST_GUESTS];
        private final int[] notes = new int[MOST_GUESTS];
        private final int[] lightness = new int[MOST_GUESTS];
        private final int[] places = new int[MOST_GUESTS];
        private int guests;
        private int beds = BEDS_UNTOLD;
        private int walls;
        private int porters = PORTERS_UNTOLD;
        private int roomNote = NOTE_UNTOLD;

        /** An item other than n was told: how many beds there are stands from then on. */
        private boolean bedsStand;

        void clear() {
            guests = 0;
            beds = BEDS_UNTOLD;
            walls = 0;
            porters = PORTERS_UNTOLD;
            roomNote = NOTE_UNTOLD;
            bedsStand = false;
        }

        void copy(Inn other) {
            System.arraycopy(other.kinds, 0, kinds, 0, MOST_GUESTS);
            System.arraycopy(other.strengths, 0, strengths, 0, MOST_GUESTS);
            System.arraycopy(other.notes, 0, notes, 0, MOST_GUESTS);
            System.arraycopy(other.lightness, 0, lightness, 0, MOST_GUESTS);
            System.arraycopy(other.places, 0, places, 0, MOST_GUESTS);
            guests = other.guests;
            beds = other.beds;
            walls = other.walls;
            porters = other.porters;
            roomNote = other.roomNote;
            bedsStand = other.bedsStand;
        }

        // -- as told

        boolean setBeds(int told) {
            if (bedsStand || told < FEWEST_BEDS || told > MOST_BEDS) {
                return false;
            }
            beds = told;
            return true;
        }

        boolean addGuest(int[] told) {
            if (told.length < 5 || guests >= MOST_GUESTS || guests >= beds - 1) {
                return false;
            }
            if (told[0] > FEIGNING || told[1] > MOST_STRENGTH || told[2] > MOST_NOTE) {
                return false;
            }
            if (told[3] < 1 || told[3] > MOST_LIGHTNESS || !hasBed(told[4]) || isTaken(told[4])) {
                return false;
            }
            kinds[guests] = told[0];
            strengths[guests] = told[1];
            notes[guests] = told[2];
            lightness[guests] = told[3];
            places[guests] = told[4];
            guests++;
            bedsStand = true;
            return true;
        }

        private boolean isTaken(int b) {
            for (int i = 0; i < guests && i < MOST_GUESTS; i++) {
                if (places[i] == b) {
                    return true;
                }
            }
            return false;
        }

        boolean stuffWall(int p) {
            if (!hasWall(p)) {
                return false;
            }
            walls |= 1 << p;
            bedsStand = true;
            return true;
        }

        boolean setPorters(int told) {
            if (told > MOST_PORTERS) {
                return false;
            }
            porters = told;
            bedsStand = true;
            return true;
        }

        boolean setNote(int told) {
            if (told > MOST_NOTE) {
                return false;
            }
            roomNote = told;
            bedsStand = true;
            return true;
        }

        /** One feigns, and nobody else: who is told to feign is plain. */
        void supposeFeigning(int i) {
            for (int j = 0; j < guests && j < MOST_GUESTS; j++) {
                if (j == i) {
                    kinds[j] = FEIGNING;
                } else if (kinds[j] == FEIGNING) {
                    kinds[j] = PLAIN;
                }
            }
        }

        // -- what there is

        int guests() {
            return guests;
        }

        int beds() {
            return beds;
        }

        int walls() {
            return walls;
        }

        boolean hasGuest(int i) {
            return i >= 0 && i < guests && i < MOST_GUESTS;
        }

        boolean hasBed(int b) {
            return b >= 0 && b < beds;
        }

        boolean hasWall(int p) {
            return p >= 0 && p < beds - 1;
        }

        int kindOf(int i) {
            return hasGuest(i) ? kinds[i] : PLAIN;
        }

        int strengthOf(int i) {
            return hasGuest(i) ? strengths[i] : 0;
        }

        int noteOf(int i) {
            return hasGuest(i) ? notes[i] : 0;
        }

        int lightnessOf(int i) {
            return hasGuest(i) ? lightness[i] : 0;
        }

        int firstPlaceOf(int i) {
            return hasGuest(i) ? places[i] : 0;
        }

        // -- what is heard

        int loudness(int i, int hour) {
            if (!hasGuest(i)) {
                return 0;
            }
            int strength = strengths[i];
            switch (kinds[i]) {
                case DRUNK: return Math.min(MOST_DRUNK, strength + 2 * (LAST_HOUR - hour));
                case FITFUL: return hour % 2 == 0 ? strength : 0;
                case FEIGNING: return hour <= LAST_FEIGNED_HOUR ? strength + FEIGNED_MORE : strength;
                default: return strength;
            }
        }

        /** The notes alone say it: one who is silent in an hour hums all the same. */
        private boolean areHumming(int i, int j) {
            if (!hasGuest(i) || !hasGuest(j)) {
                return false;
            }
            return Math.abs(notes[i] - notes[j]) == roomNote || notes[i] + notes[j] == roomNote;
        }

        /** What a guest hears of another one on a next bed. */
        int soundOf(int other, int i, Lie lie, int hour) {
            int loud = loudness(other, hour);
            if (lie.isStuffed(Math.min(lie.placeOf(other), lie.placeOf(i)))) {
                loud /= 2;
            }
            return areHumming(other, i) ? loud + HUM : loud;
        }

        int hearing(int i, Lie lie, int hour) {
            int sum = 0;
            for (int j = 0; j < guests; j++) {
                if (lie.areNext(i, j)) {
                    sum += soundOf(j, i, lie, hour);
                }
            }
            return sum;
        }

        boolean isWoken(int i, Lie lie, int hour) {
            return hearing(i, lie, hour) >= lightnessOf(i);
        }

        int wakers(Lie lie, int hour) {
            int bits = 0;
            for (int i = 0; i < guests && i < MOST_GUESTS; i++) {
                if (hearing(i, lie, hour) >= lightness[i]) {
                    bits |= 1 << i;
                }
            }
            return bits;
        }

        int wakingsOfNight(Lie lie) {
            int sum = 0;
            for (int hour = 0; hour <= LAST_HOUR; hour++) {
                sum += Integer.bitCount(wakers(lie, hour));
            }
            return sum;
        }

        int nextHummers(int i, Lie lie) {
            int bits = 0;
            for (int j = 0; j < guests; j++) {
                if (lie.areNext(i, j) && areHumming(i, j)) {
                    bits |= 1 << j;
                }
            }
            return bits;
        }

        boolean isRousedByPorters(int i) {
            return lightnessOf(i) <= porters;
        }

        /** Who wakes by it if one is carried to a bed: those that he is carried past. */
        int roused(int i, int b, Lie lie) {
            int low = Math.min(lie.placeOf(i), b);
            int high = Math.max(lie.placeOf(i), b);
            int bits = 0;
            for (int j = 0; j < guests; j++) {
                int place = lie.placeOf(j);
                if (place > low && place < high && isRousedByPorters(j)) {
                    bits |= 1 << j;
                }
            }
            return bits;
        }

        /** Whether any two on next beds are alike loud but for d. */
        boolean isEven(Lie lie, int hour, int d) {
            for (int i = 0; i < guests; i++) {
                for (int j = 0; j < i; j++) {
                    if (lie.areNext(i, j) && Math.abs(loudness(i, hour) - loudness(j, hour)) > d) {
                        return false;
                    }
                }
            }
            return true;
        }

        // -- the law

        /** The outer beds first, from both ends in turn, by how many go ahead of him. */
        int lawfulBed(int i, int hour) {
            int ahead = 0;
            int loud = loudness(i, hour);
            for (int j = 0; j < guests; j++) {
                int other = loudness(j, hour);
                if (other > loud || (other == loud && j < i)) {
                    ahead++;
                }
            }
            return ahead % 2 == 0 ? ahead / 2 : beds - 1 - ahead / 2;
        }
    }

    /** How all lie: what acts change. */
    private static final class Lie {
        static final int SIZE = MOST_GUESTS + 5;

        final int[] places = new int[MOST_GUESTS];
        int walls;
        int hour;
        int steps;
        int carried;
        int woken;

        void begin(Inn inn) {
            for (int i = 0; i < MOST_GUESTS; i++) {
                places[i] = inn.firstPlaceOf(i);
            }
            walls = inn.walls();
            hour = 0;
            steps = 0;
            carried = 0;
            woken = 0;
        }

        void copy(Lie other) {
            System.arraycopy(other.places, 0, places, 0, MOST_GUESTS);
            walls = other.walls;
            hour = other.hour;
            steps = other.steps;
            carried = other.carried;
            woken = other.woken;
        }

        void save(int[] row, int at) {
            if (at < 0 || at > row.length - SIZE) {
                return;
            }
            System.arraycopy(places, 0, row, at, MOST_GUESTS);
            row[at + MOST_GUESTS] = walls;
            row[at + MOST_GUESTS + 1] = hour;
            row[at + MOST_GUESTS + 2] = steps;
            row[at + MOST_GUESTS + 3] = carried;
            row[at + MOST_GUESTS + 4] = woken;
        }

        void load(int[] row, int at) {
            if (at < 0 || at > row.length - SIZE) {
                return;
            }
            System.arraycopy(row, at, places, 0, MOST_GUESTS);
            walls = row[at + MOST_GUESTS];
            hour = row[at + MOST_GUESTS + 1];
            steps = row[at + MOST_GUESTS + 2];
            carried = row[at + MOST_GUESTS + 3];
            woken = row[at + MOST_GUESTS + 4];
        }

        int placeOf(int i) {
            return i >= 0 && i < places.length ? places[i] : NONE;
        }

        boolean areNext(int i, int j) {
            int apart = placeOf(i) - placeOf(j);
            return apart == 1 || apart == -1;
        }

        int guestIn(int b, int guests) {
            for (int i = 0; i < guests; i++) {
                if (placeOf(i) == b) {
                    return i;
                }
            }
            return NONE;
        }

        boolean isEmpty(int b, int guests) {
            return guestIn(b, guests) == NONE;
        }

        boolean isStuffed(int p) {
            return (walls >> p & 1) == 1;
        }

        void turnWall(int p) {
            walls ^= 1 << p;
        }

        void passHour() {
            hour = Math.min(LAST_HOUR, hour + 1);
        }

        void move(int i, int b, int wokenByIt) {
            if (i < 0 || i >= places.length) {
                return;
            }
            steps += Math.abs(b - places[i]);
            carried++;
            woken += wokenByIt;
            places[i] = b;
        }
    }

    /** Ways to lie that were put away, the last one taken first. */
    private static final class Shelf {
        private final int room;
        private final int[] row;
        private int size;

        Shelf(int room) {
            this.room = Math.max(1, room);
            row = new int[this.room * Lie.SIZE];
        }

        int size() {
            return size;
        }

        boolean isFull() {
            return size >= room;
        }

        void clear() {
            size = 0;
        }

        /** If it is full the oldest one falls off. */
        void put(Lie lie) {
            if (isFull()) {
                System.arraycopy(row, Lie.SIZE, row, 0, row.length - Lie.SIZE);
                size = room - 1;
            }
            lie.save(row, size * Lie.SIZE);
            size++;
        }

        boolean takeInto(Lie lie) {
            if (size < 1) {
                return false;
            }
            size--;
            lie.load(row, size * Lie.SIZE);
            return true;
        }
    }

    /** What was heard of who woke. */
    private static final class Reports {
        private final int[] who = new int[MOST_HEARD];
        private final int[] hours = new int[MOST_HEARD];
        private final boolean[] woke = new boolean[MOST_HEARD];
        private int size;

        int size() {
            return size;
        }

        void clear() {
            size = 0;
        }

        boolean add(int i, int hour, boolean didWake) {
            if (size >= MOST_HEARD) {
                return false;
            }
            who[size] = i;
            hours[size] = hour;
            woke[size] = didWake;
            size++;
            return true;
        }

        boolean allHold(Inn inn, Lie lie) {
            for (int k = 0; k < size && k < MOST_HEARD; k++) {
                if (inn.isWoken(who[k], lie, hours[k]) != woke[k]) {
                    return false;
                }
            }
            return true;
        }
    }

    /**
     * All ways to lay the guests in the beds, numbered so that they are in order by guest 0's
     * bed, then 1's and so on: each guest adds a figure, his bed among those that are left.
     */
    private static final class Ways {
        private int beds;
        private int guests;
        private int total;

        void fit(int bedsThere, int guestsThere) {
            beds = bedsThere;
            guests = Math.min(MOST_GUESTS, guestsThere);
            total = 1;
            for (int i = 0; i < guests; i++) {
                total *= beds - i;
            }
            total = Math.min(MOST_WAYS, total);
        }

        int total() {
            return total;
        }

        int numberOf(int[] places) {
            int number = 0;
            for (int i = 0; i < guests && i < places.length; i++) {
                int figure = places[i];
                for (int j = 0; j < i; j++) {
                    if (places[j] < places[i]) {
                        figure--;
                    }
                }
                number = number * (beds - i) + figure;
            }
            return number;
        }

        void spread(int number, int[] places) {
            int weight = total;
            int rest = number;
            int taken = 0;
            for (int i = 0; i < guests && i < places.length; i++) {
                int left = beds - i;
                if (left < 1 || weight < left) {
                    return;
                }
                weight /= left;
                places[i] = freeBed(taken, rest / weight);
                taken |= 1 << places[i];
                rest %= weight;
            }
        }

        private int freeBed(int taken, int figure) {
            int toPass = figure;
            for (int b = 0; b < beds; b++) {
                if ((taken >> b & 1) == 0) {
                    if (toPass == 0) {
                        return b;
                    }
                    toPass--;
                }
            }
            return 0;
        }
    }

    /**
     * How many carries each way to lie is away from the law's. It goes backwards, from the law: a
     * carry back passes the same guests, so it wakes nobody if the carry did not.
     */
    private static final class Search {
        private static final int EMPTY = 0;
        private static final int SOUND = 1;
        private static final int LIGHT = 2;

        private final int[] distances = new int[MOST_WAYS];
        private final int[] queue = new int[MOST_WAYS];
        private int queued;
        private final Lie at = new Lie();

        /** The same by beds: EMPTY, SOUND or LIGHT each. */
        private final int[] sleepers = new int[MOST_BEDS];

        /** It ends where all lie now: whatever is nearer to the law has been measured by then. */
        void measure(Inn inn, Lie now, Ways ways) {
            Arrays.fill(distances, NONE);
            queued = 0;
            for (int i = 0; i < inn.guests() && i < MOST_GUESTS; i++) {
                at.places[i] = inn.lawfulBed(i, now.hour);
            }
            reach(ways.numberOf(at.places), 0);
            int goal = ways.numberOf(now.places);
            if (goal < 0 || goal >= MOST_WAYS) {
                return;
            }
            for (int k = 0; k < queued && k < MOST_WAYS && distances[goal] == NONE; k++) {
                goOn(queue[k], inn, ways);
            }
        }

        int distanceOf(int[] places, Ways ways) {
            int number = ways.numberOf(places);
            return number >= 0 && number < MOST_WAYS ? distances[number] : NONE;
        }

        /** The first carry by which the law is one carry nearer, as 8 times the guest and the bed. */
        int firstMove(Inn inn, Lie now, Ways ways) {
            int wanted = distanceOf(now.places, ways) - 1;
            at.copy(now);
            for (int i = 0; i < inn.guests() && i < MOST_GUESTS; i++) {
                int place = at.placeOf(i);
                for (int b = 0; b < inn.beds(); b++) {
                    if (at.isEmpty(b, inn.guests()) && inn.roused(i, b, at) == 0) {
                        at.places[i] = b;
                        if (distanceOf(at.places, ways) == wanted) {
                            return 8 * i + b;
                        }
                        at.places[i] = place;
                    }
                }
            }
            return NONE;
        }

        private void reach(int number, int distance) {
            if (number < 0 || number >= MOST_WAYS || queued >= MOST_WAYS) {
                return;
            }
            if (distances[number] == NONE) {
                distances[number] = distance;
                queue[queued] = number;
                queued++;
            }
        }

        private void goOn(int number, Inn inn, Ways ways) {
            if (number < 0 || number >= MOST_WAYS) {
                return;
            }
            ways.spread(number, at.places);
            noteSleepers(inn);
            for (int i = 0; i < inn.guests(); i++) {
                goAside(i, 1, distances[number] + 1, inn, ways);
                goAside(i, -1, distances[number] + 1, inn, ways);
            }
        }

        private void noteSleepers(Inn inn) {
            Arrays.fill(sleepers, EMPTY);
            for (int i = 0; i < inn.guests(); i++) {
                int place = at.placeOf(i);
                if (place >= 0 && place < MOST_BEDS) {
                    sleepers[place] = inn.isRousedByPorters(i) ? LIGHT : SOUND;
                }
            }
        }

        /** One is carried on bed by bed, as far as nobody wakes whom he is carried past. */
        private void goAside(int i, int side, int distance, Inn inn, Ways ways) {
            if (i < 0 || i >= MOST_GUESTS) {
                return;
            }
            int place = at.places[i];
            int b = place + side;
            for (int k = 1; k < MOST_BEDS && inn.hasBed(b) && b < MOST_BEDS; k++) {
                if (sleepers[b] == LIGHT) {
                    return;
                }
                if (sleepers[b] == EMPTY) {
                    at.places[i] = b;
                    reach(ways.numberOf(at.places), distance);
                    at.places[i] = place;
                }
                b += side;
            }
        }
    }
}

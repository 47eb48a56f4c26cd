/** The bounds that the document's promises name, promise by promise. */
final class PromiseBounds {
    private static final int BAD = -1, NO = -2, FULL = -3, NONE = -4;

    private final Sentences said;

    PromiseBounds(Sentences said) {
        this.said = said;
    }

    void all() {
        newObject();
        write();
        wipe();
        fault();
        lay();
        guest();
        bed();
        wall();
        carry();
        stuff();
        hour();
        undo();
        law();
        moves();
        best();
        wallTo();
        within();
        night();
        heard();
        forget();
        feigned();
        hums();
        odds();
        steps();
        day();
        keep();
        back();
        count();
    }

    private void sentence(int promise, String words) {
        said.sentence("Promise " + promise, words);
    }

    /** Counts 0 and up, as count(what) tells them. */
    private void countsAre(BedsBySnore x, int... due) {
        for (int what = 0; what < due.length; what++) {
            said.due("count(" + what + ")", x.count(what), due[what]);
        }
    }

    private void newObject() {
        sentence(1, "As told.");
        BedsBySnore x = new BedsBySnore();
        countsAre(x, 4, 6, 0, 1, 0, 0, 0, 0);
        said.due("fault(), THE TEXT is empty", x.fault(), NONE);
        said.due("undo()", x.undo(), NO);
        said.due("back()", x.back(), NO);
        for (int what = 0; what < 3; what++) {
            said.due("steps(" + what + ")", x.steps(what), 0);
        }
        BedsBySnore other = new BedsBySnore();
        x.hour();
        x.write('n');
        countsAre(other, 4, 6, 0, 1, 0, 0, 0, 0);
    }

    private void write() {
        sentence(2, "A letter (32 to 126, as in ASCII) comes behind THE TEXT: how long it is.");
        BedsBySnore x = new BedsBySnore();
        for (int letter = 32; letter <= 126; letter++) {
            said.due("write(" + letter + ")", x.write(letter), letter - 31);
        }
        sentence(2, "BAD;");
        said.range("write(..)", 32, 126, letter -> new BedsBySnore().write(letter));
        said.due("write(0)", new BedsBySnore().write(0), BAD);
        said.due("write(288), 32 but for a byte", new BedsBySnore().write(256 + 32), BAD);
        said.due("write(65568), 32 but for two", new BedsBySnore().write(65536 + 32), BAD);
        sentence(2, "FULL.");
        BedsBySnore full = new BedsBySnore();
        for (int k = 1; k <= 200; k++) {
            said.due("write(32) no. " + k, full.write(' '), k);
        }
        said.due("write(32) no. 201", full.write(' '), FULL);
        said.due("write(126) no. 201", full.write('~'), FULL);
        said.due("count(7)", full.count(7), 200);
        full.wipe();
        said.due("write(32) when it is empty", full.write(' '), 1);
    }

    private void wipe() {
        sentence(3, "THE TEXT is empty: how long it was.");
        BedsBySnore x = new BedsBySnore();
        said.due("wipe() of no letter", x.wipe(), 0);
        x.write('x');
        said.due("wipe() of one", x.wipe(), 1);
        said.due("count(7)", x.count(7), 0);
        said.due("fault()", x.fault(), NONE);
        said.due("wipe() of 200", Inns.written("x".repeat(200)).wipe(), 200);
        said.unchanged("wipe() of no letter", BedsBySnore::new, BedsBySnore::wipe);
        BedsBySnore shorter = Inns.written("n6;x");
        shorter.wipe();
        said.due("fault() of a shorter text", Inns.add(shorter, "n6;").fault(), NONE);
    }

    private void fault() {
        sentence(4, "FAULT.");
        said.due("fault() of x", Inns.written("x").fault(), 0);
        said.due("fault() of n6;x", Inns.written("n6;x").fault(), 3);
        said.due("fault() of 200 letters", Inns.written("x".repeat(200)).fault(), 0);
        said.unchanged("fault()", () -> Inns.written("n3;g0,1,1,1,1;x"), BedsBySnore::fault);
        sentence(4, "NONE.");
        said.due("fault() of no letter", new BedsBySnore().fault(), NONE);
        said.due("fault() of no guest", Inns.written("n2;").fault(), NONE);
        said.due("fault() of one guest", Inns.written(Inns.SMALLEST).fault(), NONE);
        said.due("fault() of five", Inns.written(Inns.LARGEST).fault(), NONE);
    }

    private void lay() {
        sentence(5, "LAID: how many GUESTS; hour 0, no STEPS, nothing HEARD, UNDONE, KEPT.");
        BedsBySnore x = Inns.later(new BedsBySnore(), 8);
        x.carry(0, 2);
        x.stuff(0);
        x.keep();
        x.keep();
        x.heard(0, 0, 0);
        Inns.add(x, Inns.SMALLEST);
        said.due("lay() of one", x.lay(), 1);
        countsAre(x, 1, 2, 0, 0, 0, 0, 0, 15);
        for (int what = 0; what < 3; what++) {
            said.due("steps(" + what + ")", x.steps(what), 0);
        }
        said.due("undo()", x.undo(), NO);
        said.due("back()", x.back(), NO);
        said.due("guest(0, 4)", x.guest(0, 4), 1);
        x.carry(0, 0);
        said.due("lay() of the same text", x.lay(), 1);
        said.due("guest(0, 4) again", x.guest(0, 4), 1);
        said.due("lay() of five", Inns.written(Inns.LARGEST).lay(), 5);
        sentence(5, "NO.");
        said.due("lay() of no letter", new BedsBySnore().lay(), NO);
        said.due("lay() of no guest", Inns.written("n6;").lay(), NO);
        said.due("lay() of a fault", Inns.written("n6;g0,0,0,1,6;").lay(), NO);
        said.due("lay() of a guest and a fault", Inns.written("n6;g0,0,0,1,5;;").lay(), NO);
    }

    private void guest() {
        sentence(6, "KIND (what = 0), L (1), NOTE (2), S (3), his BED (4), how LOUD he is in this hour (5),"
                + " what he HEARS (6), 1 if he WAKES (7).");
        BedsBySnore least = Inns.laid("n2;g0,0,0,1,0;");
        int[] leastOf = {0, 0, 0, 1, 0, 0, 0, 0};
        BedsBySnore most = Inns.laid("g1,30,12,40,4;g3,30,12,40,5;g1,30,12,40,3;r0;");
        int[] mostOf = {3, 30, 12, 40, 5, 40, 44, 1};
        int[] between = {1, 30, 12, 40, 4, 40, 88, 1};
        for (int what = 0; what < 8; what++) {
            said.due("guest(0, " + what + ") at the least", least.guest(0, what), leastOf[what]);
            said.due("guest(1, " + what + ") at the most", most.guest(1, what), mostOf[what]);
            said.due("guest(0, " + what + ") between two", most.guest(0, what), between[what]);
        }
        Inns.later(most, 7);
        said.due("guest(0, 5) in hour 7", most.guest(0, 5), 30);
        said.due("guest(0, 6) in hour 7", most.guest(0, 6), 30 + 30 + 8);
        sentence(6, "BAD.");
        BedsBySnore x = Inns.laid(Inns.LARGEST);
        said.range("guest(0, ..)", 0, 7, what -> x.guest(0, what));
        said.range("guest(4, ..)", 0, 7, what -> x.guest(4, what));
        said.range("guest(.., 0)", 0, 4, i -> x.guest(i, 0));
        said.range("guest(.., 7)", 0, 4, i -> x.guest(i, 7));
        said.due("guest(-1, -1)", x.guest(-1, -1), BAD);
    }

    private void bed() {
        sentence(7, "Who is in a BED.");
        BedsBySnore x = Inns.laid("g0,0,0,1,5;g0,0,0,1,0;g0,0,0,1,3;g0,0,0,1,4;g0,0,0,1,1;");
        int[] in = {1, 4, NONE, 2, 3, 0};
        for (int b = 0; b < in.length; b++) {
            said.due("bed(" + b + ")", x.bed(b), in[b]);
        }
        sentence(7, "NONE: it is empty;");
        said.due("bed(0) of two", Inns.laid(Inns.SMALLEST).bed(0), NONE);
        x.carry(0, 2);
        said.due("bed(5) that he left", x.bed(5), NONE);
        said.due("bed(2) that he came to", x.bed(2), 0);
        sentence(7, "BAD.");
        said.range("bed(..) of six", 0, 5, x::bed);
        said.range("bed(..) of two", 0, 1, Inns.laid(Inns.SMALLEST)::bed);
    }

    private void wall() {
        sentence(8, "1 if the wall behind a BED (not the last one) is STUFFED, 0.");
        BedsBySnore x = Inns.laid(Inns.LARGEST + "w0;w4;");
        int[] stuffed = {1, 0, 0, 0, 1};
        for (int p = 0; p < stuffed.length; p++) {
            said.due("wall(" + p + ")", x.wall(p), stuffed[p]);
        }
        said.due("wall(5), the last one", x.wall(5), BAD);
        said.due("wall(0) of two", Inns.laid(Inns.SMALLEST).wall(0), 0);
        said.due("wall(0) of two, stuffed", Inns.laid(Inns.SMALLEST + "w0;").wall(0), 1);
        said.due("wall(1) of two, the last one", Inns.laid(Inns.SMALLEST + "w0;").wall(1), BAD);
        sentence(8, "BAD.");
        said.range("wall(..) of six", 0, 4, x::wall);
        said.range("wall(..) of two", 0, 0, Inns.laid(Inns.SMALLEST)::wall);
    }

    private void carry() {
        sentence(9, "One is CARRIED: who WAKE by it, as bits.");
        said.due("carry(0, 5) past four", Inns.laid(Inns.LARGEST).carry(0, 5), 30);
        said.due("carry(4, 5) past nobody", Inns.laid(Inns.LARGEST).carry(4, 5), 0);
        said.due("carry(0, 0) of one", Inns.laid(Inns.SMALLEST).carry(0, 0), 0);
        sentence(9, "BAD;");
        said.range("carry(.., 5)", 0, 4, i -> Inns.laid(Inns.LARGEST).carry(i, 5));
        said.range("carry(0, ..)", 0, 5, b -> Inns.laid(Inns.LARGEST).carry(0, b));
        said.range("carry(.., 0) of one", 0, 0, i -> Inns.laid(Inns.SMALLEST).carry(i, 0));
        said.range("carry(0, ..) of one", 0, 1, b -> Inns.laid(Inns.SMALLEST).carry(0, b));
        sentence(9, "NO: the BED is not empty.");
        BedsBySnore x = Inns.laid(Inns.LARGEST);
        for (int i = 0; i < 5; i++) {
            for (int b = 0; b < 5; b++) {
                said.due("carry(" + i + ", " + b + ")", x.carry(i, b), NO);
            }
        }
        said.due("count(5), nothing was done", x.count(5), 0);
    }

    private void stuff() {
        sentence(10, "A wall is STUFFED, or no more: 1, 0.");
        for (int p = 0; p < 5; p++) {
            BedsBySnore x = Inns.laid(Inns.LARGEST);
            said.due("stuff(" + p + ")", x.stuff(p), 1);
            said.due("wall(" + p + ")", x.wall(p), 1);
            said.due("count(3)", x.count(3), 1);
            said.due("stuff(" + p + ") again", x.stuff(p), 0);
            said.due("count(3) again", x.count(3), 0);
        }
        sentence(10, "BAD.");
        said.range("stuff(..) of six", 0, 4, p -> new BedsBySnore().stuff(p));
        said.range("stuff(..) of two", 0, 0, p -> Inns.laid(Inns.SMALLEST).stuff(p));
    }

    private void hour() {
        sentence(11, "An hour goes by: which it is.");
        BedsBySnore x = new BedsBySnore();
        int[] hours = {1, 2, 3, 4, 5, 6, 7, 7, 7};
        for (int k = 0; k < hours.length; k++) {
            said.due("hour() no. " + (k + 1), x.hour(), hours[k]);
        }
        said.due("count(5), the last ones count as well", x.count(5), 8);
    }

    private void undo() {
        sentence(12, "UNDONE: how many more can be.");
        BedsBySnore x = Inns.later(new BedsBySnore(), 9);
        for (int left = 7; left >= 0; left--) {
            said.due("undo()", x.undo(), left);
        }
        said.due("count(2), one hour is left", x.count(2), 1);
        sentence(12, "NO.");
        said.due("undo() of the ninth", x.undo(), NO);
        said.due("count(2) is the same", x.count(2), 1);
        said.due("undo() of a new one", new BedsBySnore().undo(), NO);
        BedsBySnore back = Inns.later(new BedsBySnore(), 2);
        back.keep();
        back.hour();
        back.back();
        said.due("undo() behind back()", back.undo(), NO);
        BedsBySnore laid = Inns.written(Inns.SMALLEST);
        laid.hour();
        laid.lay();
        said.due("undo() behind lay()", laid.undo(), NO);
        BedsBySnore idle = Inns.written(Inns.SMALLEST);
        idle.wipe();
        idle.keep();
        idle.heard(0, 0, 0);
        idle.forget();
        said.due("undo() of what is no act", idle.undo(), NO);
    }

    private void law() {
        sentence(13, "THE LAW: in which BED a GUEST is to be; 1 if all is LAWFUL, 0 (i = -1).");
        BedsBySnore x = Inns.laid(Inns.LARGEST);
        int[] beds = {2, 4, 1, 5, 0};
        for (int i = 0; i < beds.length; i++) {
            said.due("law(" + i + ")", x.law(i), beds[i]);
        }
        said.due("law(-1)", x.law(-1), 0);
        said.due("law(0) of one", Inns.laid(Inns.SMALLEST).law(0), 0);
        said.due("law(-1) of one in BED 0", Inns.laid("n2;g0,0,0,1,0;").law(-1), 1);
        sentence(13, "BAD.");
        said.range("law(..) of five", -1, 4, x::law);
        said.range("law(..) of one", -1, 0, Inns.laid(Inns.SMALLEST)::law);
    }

    private void moves() {
        sentence(14, "MOVES: how many (what = 0), the first one (1; NONE: all is LAWFUL).");
        BedsBySnore lawful = Inns.laid("n2;g0,0,0,1,0;");
        said.due("moves(0) of what is lawful", lawful.moves(0), 0);
        said.due("moves(1) of what is lawful", lawful.moves(1), NONE);
        BedsBySnore one = Inns.laid(Inns.SMALLEST);
        said.due("moves(0) of one", one.moves(0), 1);
        said.due("moves(1) of one, 0 to BED 0", one.moves(1), 0);
        sentence(14, "NONE;");
        BedsBySnore stuck = Inns.laid("n3;g0,9,0,8,2;g0,5,0,8,1;c8;");
        said.due("moves(0) of no way", stuck.moves(0), NONE);
        said.due("moves(1) of no way", stuck.moves(1), NONE);
        sentence(14, "BAD.");
        said.range("moves(..)", 0, 1, one::moves);
        said.range("moves(..) of what is lawful", 0, 1, lawful::moves);
        said.range("moves(..) of no way", 0, 1, stuck::moves);
    }

    private void best() {
        sentence(15, "BEST: how many (i = -1), the BED of a GUEST.");
        BedsBySnore x = Inns.laid("g0,1,0,1,0;g0,1,0,1,1;g0,1,0,1,2;g0,1,0,1,3;g0,1,0,1,4;r1;");
        int[] beds = {0, 1, 2, 3, 5};
        said.due("best(0, -1)", x.best(0, -1), 4);
        for (int i = 0; i < beds.length; i++) {
            said.due("best(7, " + i + ")", x.best(7, i), beds[i]);
        }
        said.due("best(0, -1) of one", Inns.laid(Inns.SMALLEST).best(0, -1), 0);
        said.due("best(0, 0) of one", Inns.laid(Inns.SMALLEST).best(0, 0), 0);
        sentence(15, "BAD.");
        said.range("best(.., -1)", 0, 7, hour -> x.best(hour, -1));
        said.range("best(.., 4)", 0, 7, hour -> x.best(hour, 4));
        said.range("best(0, ..)", -1, 4, i -> x.best(0, i));
        said.range("best(7, ..) of one", -1, 0, i -> Inns.laid(Inns.SMALLEST).best(7, i));
        said.due("best(-1, -1)", x.best(-1, -1), BAD);
        said.due("best(8, 5)", x.best(8, 5), BAD);
    }

    private void wallTo() {
        sentence(16, "STUFF: which (what = 0), how many (1).");
        BedsBySnore last = Inns.laid("g0,1,0,1,4;g0,1,0,1,5;r1;");
        said.due("wallTo(0), the last wall", last.wallTo(0), 4);
        said.due("wallTo(1), nobody then", last.wallTo(1), 0);
        BedsBySnore first = Inns.laid(Inns.SMALLEST);
        said.due("wallTo(0), the first wall", first.wallTo(0), 0);
        said.due("count(3), it is not stuffed by it", first.count(3), 0);
        sentence(16, "NONE;");
        first.stuff(0);
        said.due("wallTo(0), all are stuffed", first.wallTo(0), NONE);
        said.due("wallTo(1), all are stuffed", first.wallTo(1), NONE);
        sentence(16, "BAD.");
        said.range("wallTo(..)", 0, 1, last::wallTo);
        said.range("wallTo(..), all are stuffed", 0, 1, first::wallTo);
    }

    private void within() {
        sentence(17, "WITHIN: how many (i = -1), the BED of a GUEST in the first.");
        BedsBySnore x = Inns.laid("n3;g0,30,0,1,2;g0,0,0,1,1;");
        said.due("within(30, -1)", x.within(30, -1), 6);
        said.due("within(30, 1)", x.within(30, 1), 1);
        said.due("within(29, -1)", x.within(29, -1), 2);
        said.due("within(29, 1)", x.within(29, 1), 2);
        sentence(17, "NONE;");
        BedsBySnore uneven = Inns.laid(Inns.LARGEST);
        for (int i = -1; i < 5; i++) {
            said.due("within(0, " + i + ")", uneven.within(0, i), NONE);
        }
        sentence(17, "BAD.");
        said.range("within(.., -1)", 0, 40, d -> x.within(d, -1));
        said.range("within(.., 1)", 0, 40, d -> x.within(d, 1));
        said.range("within(0, ..)", -1, 1, i -> x.within(0, i));
        said.range("within(40, ..) of one", -1, 0, i -> Inns.laid(Inns.SMALLEST).within(40, i));
        said.range("within(0, ..), there is none", -1, 4, i -> uneven.within(0, i));
    }

    private void night() {
        sentence(18, "NIGHT: who WAKE in an hour, as bits; how many in all 8 together (hour = -1).");
        BedsBySnore x = Inns.laid("n3;g3,0,0,40,0;g2,9,0,10,1;r1;");
        int[] wake = {2, 2, 2, 0, 0, 0, 0, 0};
        for (int hour = 0; hour < wake.length; hour++) {
            said.due("night(" + hour + ")", x.night(hour), wake[hour]);
        }
        said.due("night(-1)", x.night(-1), 3);
        sentence(18, "BAD.");
        said.range("night(..)", -1, 7, x::night);
    }

    private void heard() {
        sentence(19, "HEARD: how many.");
        BedsBySnore x = Inns.laid(Inns.LARGEST);
        for (int k = 1; k <= 8; k++) {
            said.due("heard(4, 7, 1) no. " + k, x.heard(4, 7, 1), k);
        }
        sentence(19, "BAD;");
        said.range("heard(.., 0, 0)", 0, 4, i -> Inns.laid(Inns.LARGEST).heard(i, 0, 0));
        said.range("heard(0, .., 0)", 0, 7, hour -> Inns.laid(Inns.LARGEST).heard(0, hour, 0));
        said.range("heard(0, 0, ..)", 0, 1, woke -> Inns.laid(Inns.LARGEST).heard(0, 0, woke));
        said.due("heard(-1, -1, -1)", x.heard(-1, -1, -1), BAD);
        sentence(19, "FULL.");
        said.due("heard(0, 0, 0) no. 9", x.heard(0, 0, 0), FULL);
        said.due("count(4)", x.count(4), 8);
        x.forget();
        said.due("heard(0, 0, 0) when there is room", x.heard(0, 0, 0), 1);
    }

    private void forget() {
        sentence(20, "Nothing is HEARD: how many were.");
        BedsBySnore x = new BedsBySnore();
        said.due("forget() of nothing", x.forget(), 0);
        for (int k = 0; k < 9; k++) {
            x.heard(0, 0, k % 2);
        }
        said.due("feigned() of what cannot be", x.feigned(), 0);
        said.due("forget() of eight", x.forget(), 8);
        said.due("forget() again", x.forget(), 0);
        said.due("count(4)", x.count(4), 0);
        said.due("feigned() of nothing", x.feigned(), 15);
    }

    private void feigned() {
        sentence(21, "FEIGNED, as bits.");
        BedsBySnore x = Inns.laid("g0,0,0,1,0;g0,0,0,40,3;g0,0,0,40,4;g0,0,0,40,5;g0,0,0,40,1;r1;");
        said.due("feigned() of nothing", x.feigned(), 31);
        x.heard(0, 0, 1);
        said.due("feigned(), the last one alone", x.feigned(), 16);
        x.forget();
        x.heard(0, 0, 0);
        said.due("feigned(), all but the last one", x.feigned(), 15);
        said.due("feigned() of one", Inns.laid(Inns.SMALLEST).feigned(), 1);
    }

    private void hums() {
        sentence(22, "HUMS, as bits.");
        BedsBySnore x = Inns.laid("g0,0,6,1,1;g0,0,6,1,5;g0,0,6,1,3;g0,0,6,1,0;g0,0,6,1,2;r0;");
        int[] with = {8 + 16, 0, 16, 1, 1 + 4};
        for (int i = 0; i < with.length; i++) {
            said.due("hums(" + i + ")", x.hums(i), with[i]);
        }
        sentence(22, "BAD.");
        said.range("hums(..) of five", 0, 4, x::hums);
        said.range("hums(..) of one", 0, 0, Inns.laid(Inns.SMALLEST)::hums);
    }

    private void odds() {
        sentence(23, "ODDS: above (part = 0), below (1).");
        BedsBySnore x = Inns.laid("n3;g0,0,0,5,0;g0,5,0,40,1;r1;");
        int[][] due = {{0, 1, 1}, {1, 9, 10}, {5, 1, 2}, {9, 1, 10}, {10, 0, 1}};
        for (int[] d : due) {
            said.due("odds(0, " + d[0] + ", 0)", x.odds(0, d[0], 0), d[1]);
            said.due("odds(0, " + d[0] + ", 1)", x.odds(0, d[0], 1), d[2]);
        }
        sentence(23, "BAD.");
        said.range("odds(.., 0, 0)", 0, 1, i -> x.odds(i, 0, 0));
        said.range("odds(0, .., 0)", 0, 10, chance -> x.odds(0, chance, 0));
        said.range("odds(1, .., 1)", 0, 10, chance -> x.odds(1, chance, 1));
        said.range("odds(0, 10, ..)", 0, 1, part -> x.odds(0, 10, part));
        said.due("odds(2, 11, 2)", x.odds(2, 11, 2), BAD);
    }

    private void steps() {
        sentence(24, "STEPS (what = 0), how often CARRIED (1), how often woken (2).");
        BedsBySnore x = Inns.laid(Inns.LARGEST);
        int[][] due = {{0, 0, 0}, {5, 1, 4}};
        for (int k = 0; k < due.length; k++) {
            for (int what = 0; what < 3; what++) {
                said.due("steps(" + what + ") behind " + k + " carries", x.steps(what), due[k][what]);
            }
            x.carry(0, 5);
        }
        sentence(24, "BAD.");
        said.range("steps(..)", 0, 2, x::steps);
    }

    private void day() {
        sentence(25, "A DAY: how many woke (what = 0), would WAKE (1).");
        BedsBySnore x = new BedsBySnore();
        said.due("day(0, 1, 0)", x.day(0, 1, 0), 0);
        said.due("day(0, 1, 1)", x.day(0, 1, 1), 3);
        said.due("day(9999, 30, 0)", x.day(9999, 30, 0), 4);
        said.due("day(9999, 30, 1)", x.day(9999, 30, 1), 2);
        sentence(25, "BAD.");
        said.range("day(.., 30, 1)", 0, 9999, z -> new BedsBySnore().day(z, 30, 1));
        said.range("day(9999, .., 0)", 1, 30, n -> x.day(9999, n, 0));
        said.range("day(0, 1, ..)", 0, 1, what -> x.day(0, 1, what));
        said.due("day(-1, 0, 2)", x.day(-1, 0, 2), BAD);
    }

    private void keep() {
        sentence(26, "KEPT: how many.");
        BedsBySnore x = new BedsBySnore();
        said.due("keep()", x.keep(), 1);
        said.due("keep() of the same", x.keep(), 2);
        said.due("count(5), it is no act", x.count(5), 0);
        sentence(26, "FULL.");
        said.due("keep() no. 3", x.keep(), FULL);
        said.due("keep() no. 4", x.keep(), FULL);
        said.due("count(6)", x.count(6), 2);
        x.hour();
        said.due("keep() of another hour", x.keep(), FULL);
        said.due("back()", x.back(), 1);
        said.due("count(2), the hour that was not kept", x.count(2), 0);
        said.due("keep() when there is room", x.keep(), 2);
        BedsBySnore laid = Inns.written(Inns.SMALLEST);
        laid.keep();
        laid.keep();
        laid.lay();
        said.due("keep() behind lay()", laid.keep(), 1);
    }

    private void back() {
        sentence(27, "As KEPT last: how many are left; nothing is UNDONE then.");
        BedsBySnore x = Inns.later(new BedsBySnore(), 1);
        x.keep();
        Inns.later(x, 1);
        x.keep();
        Inns.later(x, 9);
        said.due("back() to the last", x.back(), 1);
        said.due("count(2)", x.count(2), 2);
        said.due("count(5)", x.count(5), 0);
        said.due("undo()", x.undo(), NO);
        said.due("back() to the first", x.back(), 0);
        said.due("count(2)", x.count(2), 1);
        x.hour();
        said.due("undo() of what was done then", x.undo(), 0);
        sentence(27, "NO.");
        said.due("back() to nothing", x.back(), NO);
        said.due("count(2), it stays", x.count(2), 1);
        said.due("back() of a new one", new BedsBySnore().back(), NO);
        BedsBySnore laid = Inns.written(Inns.SMALLEST);
        laid.keep();
        laid.lay();
        said.due("back() behind lay()", laid.back(), NO);
    }

    private void count() {
        sentence(28, "How many: 0 GUESTS, 1 BEDS, 2 the hour, 3 STUFFED walls, 4 HEARD, 5 that can be UNDONE, 6 KEPT,"
                + " 7 letters of THE TEXT.");
        countsAre(Inns.written(""), 4, 6, 0, 1, 0, 0, 0, 0);
        countsAre(Inns.laid(Inns.SMALLEST), 1, 2, 0, 0, 0, 0, 0, 15);
        countsAre(Inns.later(Inns.written("x".repeat(201)), 9), 4, 6, 7, 1, 0, 8, 0, 200);
        BedsBySnore five = Inns.later(Inns.laid(Inns.LARGEST + "w0;w1;w2;w3;w4;" + "c8;".repeat(41) + "c08;"), 9);
        for (int k = 0; k < 9; k++) {
            five.heard(0, 0, 0);
            five.keep();
        }
        countsAre(five, 5, 6, 7, 5, 8, 8, 2, 200);
        sentence(28, "BAD.");
        said.range("count(..)", 0, 7, five::count);
    }
}

/** The bounds that the document's section "Terms" names, from HEARD on. */
final class HeardBounds {
    private static final int BAD = -1, NO = -2, FULL = -3, NONE = -4;

    /** 0 wakes by 10 of 1, who is told to feign; 2 lies alone. */
    private static final String FEIGNER = "n4;g0,0,0,10,0;g3,0,0,40,1;g0,0,0,40,3;r1;";

    private final Sentences said;

    HeardBounds(Sentences said) {
        this.said = said;
    }

    void all() {
        heard();
        feigned();
        hummers();
        odds();
        steps();
        dayBounds();
        dayTries();
        dayHours();
        dayDraws();
        kept();
        bad();
        refusals();
        severalRefusals();
        nothingChanges();
    }

    private void sentence(String words) {
        said.sentence("Terms", words);
    }

    private void heard() {
        sentence("HEARD (8 at most) is that a GUEST woke in an hour (0 to 7), or did not (1, 0), as all lie now.");
        BedsBySnore x = Inns.laid(Inns.LARGEST);
        for (int k = 0; k < 8; k++) {
            said.due("heard(" + k % 5 + ", " + k + ", 0)", x.heard(k % 5, k, 0), k + 1);
        }
        said.due("heard(0, 0, 0) no. 9", x.heard(0, 0, 0), FULL);
        said.due("count(4)", x.count(4), 8);
        said.due("forget()", x.forget(), 8);
        said.range("heard(0, .., 1)", 0, 7, hour -> new BedsBySnore().heard(0, hour, 1));
        said.range("heard(0, 0, ..)", 0, 1, woke -> new BedsBySnore().heard(0, 0, woke));
        said.due("heard(0, 7, 1) when there is room again", x.heard(0, 7, 1), 1);
        said.due("heard(0, 7, 1), the same twice", x.heard(0, 7, 1), 2);
        // nobody feigns in hour 7: 0 wakes by anybody next to him
        said.due("feigned() of what is so", x.feigned(), 31);
        x.carry(0, 5);
        said.due("feigned() as all lie now, 4 next to him", x.feigned(), 31);
        x.carry(4, 0);
        said.due("feigned() as all lie now, nobody next to him", x.feigned(), 0);
        x.undo();
        said.due("feigned() as all lie again", x.feigned(), 31);
        // the last one hears 4, and S is 5
        BedsBySnore last = Inns.laid(Inns.LARGEST + "r12;");
        said.due("heard(4, 7, 0)", last.heard(4, 7, 0), 1);
        said.due("feigned(), he sleeps in hour 7", last.feigned(), 31);
        said.due("heard(4, 7, 1)", last.heard(4, 7, 1), 2);
        said.due("feigned(), both cannot be", last.feigned(), 0);
    }

    private void feigned() {
        sentence("FEIGNED: GUESTS (bits) by whom, were he FEIGNING and nobody else (who is told so being PLAIN),"
                + " all that was HEARD would be so.");
        said.due("feigned(), nothing was heard of one", Inns.laid(Inns.SMALLEST).feigned(), 1);
        said.due("feigned(), nothing was heard of five", Inns.laid(Inns.LARGEST).feigned(), 31);
        BedsBySnore both = Inns.laid(Inns.LARGEST);
        both.heard(0, 0, 0);
        both.heard(0, 0, 1);
        said.due("feigned() of what cannot be", both.feigned(), 0);
        for (int hour = 0; hour < 8; hour++) {
            BedsBySnore woke = Inns.laid(FEIGNER);
            woke.heard(0, hour, 1);
            said.due("feigned(), 0 woke in hour " + hour, woke.feigned(), hour <= 2 ? 2 : 0);
            BedsBySnore slept = Inns.laid(FEIGNER);
            slept.heard(0, hour, 0);
            said.due("feigned(), 0 slept in hour " + hour, slept.feigned(), hour <= 2 ? 1 + 4 : 7);
        }
        // 0 is told to feign: if 1 does instead, 0 is not 10 loud, and 1 sleeps
        BedsBySnore first = Inns.laid("n3;g3,0,0,40,0;g0,0,0,10,1;r1;");
        first.heard(1, 0, 0);
        said.due("feigned(), 1 slept next to who is told so", first.feigned(), 2);
        othersStayAsTheyAre();
        BedsBySnore eight = Inns.laid(FEIGNER);
        for (int k = 0; k < 7; k++) {
            eight.heard(0, 2, 1);
        }
        said.due("feigned() of seven", eight.feigned(), 2);
        eight.heard(0, 3, 1);
        said.due("feigned(), the eighth counts", eight.feigned(), 0);
        eight.forget();
        said.due("feigned() of nothing again", eight.feigned(), 7);
    }

    /** Others stay drunk or fitful, and hum; who feigns is neither drunk nor fitful. */
    private void othersStayAsTheyAre() {
        BedsBySnore drunk = Inns.laid("n4;g0,0,0,14,0;g1,0,0,40,1;g0,0,0,40,3;r1;");
        drunk.heard(0, 0, 1);
        said.due("feigned(), 0 woke by 14 of a drunk one", drunk.feigned(), 1 + 4);
        BedsBySnore fitful = Inns.laid("n4;g0,0,0,9,0;g2,9,0,40,1;g0,0,0,40,3;r1;");
        fitful.heard(0, 3, 0);
        said.due("feigned(), 0 slept next to a fitful one", fitful.feigned(), 1 + 4);
        BedsBySnore humming = Inns.laid("n4;g0,0,6,14,0;g0,0,5,40,1;g0,0,0,40,3;r1;");
        humming.heard(0, 0, 1);
        said.due("feigned(), 0 woke by 10 and 4", humming.feigned(), 2);
    }

    private void hummers() {
        sentence("HUMS of a GUEST: with whom of those on next BEDS (bits).");
        BedsBySnore x = Inns.laid("g0,0,6,1,0;g0,0,6,1,2;g0,0,6,1,5;g0,0,6,1,3;g0,0,6,1,1;r0;");
        int[] with = {16, 8 + 16, 0, 2, 1 + 2};
        for (int i = 0; i < with.length; i++) {
            said.due("hums(" + i + ")", x.hums(i), with[i]);
        }
        x.carry(1, 4);
        said.due("hums(1) between 3 and 2", x.hums(1), 4 + 8);
        said.due("hums(2) in the last BED", x.hums(2), 2);
        said.due("hums(0) in the first BED", x.hums(0), 16);
        said.due("hums(4), nobody behind him now", x.hums(4), 1);
        said.due("hums(0) of one alone", Inns.laid(Inns.SMALLEST).hums(0), 0);
    }

    private void oddsAre(BedsBySnore x, int i, int chance, int above, int below) {
        said.due("odds(" + i + ", " + chance + ", 0)", x.odds(i, chance, 0), above);
        said.due("odds(" + i + ", " + chance + ", 1)", x.odds(i, chance, 1), below);
    }

    private void odds() {
        sentence("ODDS: each other GUEST snores in this hour by the chance of x (0 to 10) of ten,"
                + " and is not LOUD (nor HUMS) else: how likely a GUEST does not WAKE, in lowest terms.");
        BedsBySnore alone = Inns.laid(Inns.SMALLEST);
        BedsBySnore one = Inns.laid("n3;g0,0,0,5,0;g0,5,0,40,1;r1;");
        BedsBySnore either = Inns.laid("n4;g0,5,0,40,0;g0,30,0,5,1;g0,5,0,40,2;r1;");
        BedsBySnore both = Inns.laid("n4;g0,5,0,40,0;g0,30,0,10,1;g0,5,0,40,2;r1;");
        BedsBySnore neither = Inns.laid("n4;g0,5,0,40,0;g0,30,0,11,1;g0,5,0,40,2;r1;");
        int[][] byOne = {{1, 1}, {9, 10}, {4, 5}, {7, 10}, {3, 5}, {1, 2}, {2, 5}, {3, 10}, {1, 5}, {1, 10}, {0, 1}};
        int[][] byEither = {{1, 1}, {81, 100}, {16, 25}, {49, 100}, {9, 25}, {1, 4}, {4, 25}, {9, 100}, {1, 25},
            {1, 100}, {0, 1}};
        int[][] byBoth = {{1, 1}, {99, 100}, {24, 25}, {91, 100}, {21, 25}, {3, 4}, {16, 25}, {51, 100}, {9, 25},
            {19, 100}, {0, 1}};
        for (int x = 0; x <= 10; x++) {
            oddsAre(alone, 0, x, 1, 1);
            oddsAre(one, 0, x, byOne[x][0], byOne[x][1]);
            oddsAre(either, 1, x, byEither[x][0], byEither[x][1]);
            oddsAre(both, 1, x, byBoth[x][0], byBoth[x][1]);
            oddsAre(neither, 1, x, 1, 1);
        }
        said.range("odds(0, .., 0)", 0, 10, x -> one.odds(0, x, 0));
        // who does not snore does not hum; who snores does, though he be 0 loud
        oddsAre(Inns.laid("n3;g0,0,6,4,0;g0,0,6,40,1;r0;"), 0, 1, 9, 10);
        oddsAre(Inns.laid("n3;g0,0,6,5,0;g0,0,6,40,1;r0;"), 0, 1, 1, 1);
        BedsBySnore fitful = Inns.laid("n3;g0,0,0,5,0;g2,5,0,40,1;r1;");
        oddsAre(fitful, 0, 10, 0, 1);
        oddsAre(Inns.later(fitful, 1), 0, 10, 1, 1);
    }

    private void stepsAre(BedsBySnore x, int... due) {
        for (int what = 0; what < 3; what++) {
            said.due("steps(" + what + ")", x.steps(what), due[what]);
        }
    }

    private void steps() {
        sentence("STEPS: how many in all; how often any was CARRIED; how often any woke by it.");
        BedsBySnore x = Inns.laid("g0,0,0,1,0;g0,0,0,8,1;g0,0,0,9,2;g0,0,0,8,3;");
        stepsAre(x, 0, 0, 0);
        said.due("carry(0, 5) past 1, 2 and 3", x.carry(0, 5), 2 + 8);
        stepsAre(x, 5, 1, 2);
        said.due("carry(3, 4) past nobody", x.carry(3, 4), 0);
        stepsAre(x, 6, 2, 2);
        said.due("carry(0, 5), he is there", x.carry(0, 5), NO);
        said.due("carry(4, 0), nobody", x.carry(4, 0), BAD);
        stepsAre(x, 6, 2, 2);
        said.due("carry(3, 0) past 2 and 1", x.carry(3, 0), 2);
        stepsAre(x, 10, 3, 3);
        x.hour();
        x.stuff(0);
        stepsAre(x, 10, 3, 3);
    }

    private void dayIs(BedsBySnore x, int z, int n, int woke, int wouldWake) {
        said.due("day(" + z + ", " + n + ", 0)", x.day(z, n, 0), woke);
        said.due("day(" + z + ", " + n + ", 1)", x.day(z, n, 1), wouldWake);
    }

    private void dayBounds() {
        sentence("A DAY by z (0 to 9999) of n (1 to 30) tries from now on:");
        said.range("day(.., 1, 0)", 0, 9999, z -> new BedsBySnore().day(z, 1, 0));
        said.range("day(0, .., 0)", 1, 30, n -> new BedsBySnore().day(0, n, 0));
        said.range("day(9999, .., 1)", 1, 30, n -> new BedsBySnore().day(9999, n, 1));
        said.unchanged("a DAY", BedsBySnore::new, x -> x.day(9999, 30, 0));
        // from where all lie now: 0 was carried to bed 0 himself
        BedsBySnore x = Inns.laid("g0,0,0,1,5;g0,0,0,40,1;c40;");
        said.due("day(0, 1, 0), 0 in BED 5", x.day(0, 1, 0), 1);
        x.carry(0, 0);
        said.due("day(0, 1, 0), 0 in BED 0", x.day(0, 1, 0), 0);
    }

    /** DRAW is 0 in the first try of z 0; of z 55 it is guest 4 of 5 to bed 5 of 6. */
    private void dayTries() {
        sentence("each is a GUEST (DRAW modulo as many) CARRIED to a BED (DRAW by 8, cut, modulo as many),"
                + " if it is empty, else nothing;");
        String others = "g0,0,0,40,1;g0,0,0,40,2;g0,0,0,40,3;g0,0,0,40,4;";
        dayIs(Inns.laid("g0,0,0,1,5;" + others + "c40;r1;"), 0, 1, 4, 0);
        dayIs(Inns.laid("g0,0,0,1,5;" + others + "c39;r1;"), 0, 1, 0, 0);
        dayIs(Inns.laid("g0,0,0,1,0;" + others + "c40;r1;"), 0, 1, 0, 0);
        dayIs(Inns.laid(others + "g0,0,0,1,0;c40;r1;"), 55, 1, 4, 0);
        dayIs(Inns.laid("g0,0,0,40,5;g0,0,0,40,2;g0,0,0,40,3;g0,0,0,40,4;g0,0,0,1,0;c40;r1;"), 55, 1, 0, 0);
        dayIs(Inns.laid(Inns.SMALLEST), 0, 30, 0, 0);
        dayIs(Inns.laid(Inns.SMALLEST), 9999, 30, 0, 0);
    }

    /** All thirty tries of z 314 are to beds 0 to 4 of 6. */
    private void dayHours() {
        sentence("an hour goes by behind each fourth;");
        String fitful = "g2,30,0,1,0;g2,30,0,1,1;g2,30,0,1,2;g2,30,0,1,3;g2,30,0,1,4;r1;";
        for (int n = 1; n <= 30; n++) {
            int hour = Math.min(7, n / 4);
            dayIs(Inns.laid(fitful), 314, n, 0, hour % 2 == 0 ? 5 : 0);
            dayIs(Inns.later(Inns.laid(fitful), 6), 314, n, 0, n < 4 ? 5 : 0);
            dayIs(Inns.later(Inns.laid(fitful), 7), 314, n, 0, 0);
        }
    }

    /** Found by a program of its own, in another language. */
    private void dayDraws() {
        sentence("DRAW being ((x times x) modulo 65521) by 4, cut, x 7919 z, 6151 (the try, 0 first) and 1 together:"
                + " how many woke by it; how many would WAKE then.");
        BedsBySnore first = new BedsBySnore();
        dayIs(first, 0, 1, 0, 3);
        dayIs(first, 0, 4, 0, 2);
        dayIs(first, 0, 30, 5, 1);
        dayIs(first, 9999, 1, 0, 3);
        dayIs(first, 9999, 4, 1, 2);
        dayIs(first, 9999, 30, 4, 2);
        BedsBySnore five = Inns.laid(Inns.LARGEST + "c40;");
        dayIs(five, 0, 30, 6, 3);
        dayIs(five, 9999, 30, 6, 5);
        BedsBySnore four = Inns.laid("n5;g1,30,6,40,0;g1,30,6,39,4;g2,30,1,30,2;g3,30,6,8,1;r0;c40;");
        dayIs(four, 77, 30, 11, 2);
    }

    private void kept() {
        sentence("KEPT are BEDS, walls, the hour, STEPS: 2 at most.");
        BedsBySnore x = Inns.laid("g0,0,0,1,0;g0,0,0,1,1;g0,0,0,1,3;");
        said.due("keep()", x.keep(), 1);
        said.due("carry(0, 4)", x.carry(0, 4), 2 + 4);
        x.stuff(4);
        x.hour();
        said.due("keep() of a second one", x.keep(), 2);
        said.due("keep() of a third one", x.keep(), FULL);
        x.carry(1, 5);
        x.stuff(4);
        x.hour();
        x.heard(0, 0, 1);
        x.write('n');
        said.due("back() to the second one", x.back(), 1);
        said.due("bed(1)", x.bed(1), 1);
        said.due("bed(4)", x.bed(4), 0);
        said.due("wall(4)", x.wall(4), 1);
        said.due("count(2)", x.count(2), 1);
        stepsAre(x, 4, 1, 2);
        said.due("back() to the first one", x.back(), 0);
        said.due("bed(0)", x.bed(0), 0);
        said.due("wall(4)", x.wall(4), 0);
        said.due("count(2)", x.count(2), 0);
        stepsAre(x, 0, 0, 0);
        said.due("count(4), what was HEARD is not KEPT", x.count(4), 1);
        said.due("count(7), nor is THE TEXT", x.count(7), 34);
        said.due("back() to no third one", x.back(), NO);
    }

    private void bad() {
        sentence("BAD: a number is none that is told (GUESTS, BEDS, walls: such as there are).");
        for (int n = 2; n <= 6; n++) {
            for (int many = 1; many < n; many++) {
                StringBuilder text = new StringBuilder("n" + n + ";");
                for (int b = 0; b < many; b++) {
                    text.append("g0,0,0,1,").append(b).append(';');
                }
                String inn = text.toString();
                guestsThatThereAre(inn, many);
                BedsBySnore x = Inns.laid(inn);
                said.range("bed(..) of " + inn, 0, n - 1, x::bed);
                said.range("carry(0, ..) of " + inn, 0, n - 1, b -> Inns.laid(inn).carry(0, b));
                said.range("wall(..) of " + inn, 0, n - 2, x::wall);
                said.range("stuff(..) of " + inn, 0, n - 2, p -> Inns.laid(inn).stuff(p));
            }
        }
    }

    private void guestsThatThereAre(String inn, int many) {
        BedsBySnore x = Inns.laid(inn);
        said.range("guest(.., 0) of " + inn, 0, many - 1, i -> x.guest(i, 0));
        said.range("carry(.., 0) of " + inn, 0, many - 1, i -> Inns.laid(inn).carry(i, 0));
        said.range("law(..) of " + inn, -1, many - 1, x::law);
        said.range("best(0, ..) of " + inn, -1, many - 1, i -> x.best(0, i));
        said.range("within(0, ..) of " + inn, -1, many - 1, i -> x.within(0, i));
        said.range("heard(.., 0, 0) of " + inn, 0, many - 1, i -> Inns.laid(inn).heard(i, 0, 0));
        said.range("hums(..) of " + inn, 0, many - 1, x::hums);
        said.range("odds(.., 5, 0) of " + inn, 0, many - 1, i -> x.odds(i, 5, 0));
    }

    private void refusals() {
        sentence("NO: not as things stand.");
        BedsBySnore fresh = new BedsBySnore();
        said.due("lay() of no text", fresh.lay(), NO);
        said.due("carry(0, 1) to a BED that 1 has", fresh.carry(0, 1), NO);
        said.due("carry(0, 0) to his own BED", fresh.carry(0, 0), NO);
        said.due("undo() of nothing", fresh.undo(), NO);
        said.due("back() to nothing", fresh.back(), NO);
        sentence("NONE: there is none.");
        said.due("fault() of no text", fresh.fault(), NONE);
        said.due("bed(2) that is empty", fresh.bed(2), NONE);
        said.due("moves(1) of what is lawful", Inns.laid("n2;g0,0,0,1,0;").moves(1), NONE);
        said.due("moves(0) where all wake", Inns.laid("n3;g0,9,0,1,2;g0,5,0,1,1;").moves(0), NONE);
        said.due("wallTo(0), all are stuffed", Inns.laid("n2;g0,0,0,1,0;w0;").wallTo(0), NONE);
        said.due("within(0, -1)", Inns.laid(Inns.LARGEST).within(0, -1), NONE);
        sentence("FULL.");
        BedsBySnore full = Inns.written("x".repeat(200));
        said.due("write(120) no. 201", full.write('x'), FULL);
        for (int k = 0; k < 8; k++) {
            full.heard(0, 0, 0);
        }
        said.due("heard(0, 0, 0) no. 9", full.heard(0, 0, 0), FULL);
        full.keep();
        full.keep();
        said.due("keep() no. 3", full.keep(), FULL);
    }

    private void severalRefusals() {
        sentence("Of several the first;");
        BedsBySnore x = busy();
        said.due("carry(4, ..) of nobody to a BED that is not empty: BAD ahead of NO", x.carry(4, x.guest(0, 4)), BAD);
        said.due("heard(0, 8, 0), there is no room: BAD ahead of FULL", x.heard(0, 8, 0), BAD);
        said.due("write(31), there is no room: BAD ahead of FULL", Inns.written("x".repeat(200)).write(31), BAD);
        BedsBySnore stuck = Inns.laid("n3;g0,9,0,1,2;g0,5,0,1,1;");
        said.due("moves(2), there is none: BAD ahead of NONE", stuck.moves(2), BAD);
        BedsBySnore stuffed = Inns.laid("n2;g0,0,0,1,0;w0;");
        said.due("wallTo(2), there is none: BAD ahead of NONE", stuffed.wallTo(2), BAD);
        BedsBySnore uneven = Inns.laid(Inns.LARGEST);
        said.due("within(0, 5), there is none: BAD ahead of NONE", uneven.within(0, 5), BAD);
        said.due("within(0, -2), there is none: BAD ahead of NONE", uneven.within(0, -2), BAD);
    }

    /** Nine acts, eight of which can be undone, all that can be heard and kept, and letters behind the text. */
    private static BedsBySnore busy() {
        BedsBySnore x = Inns.laid("n5;g1,20,6,9,0;g2,9,6,8,4;g3,30,1,30,2;g0,7,6,8,1;r0;w1;");
        x.hour();
        x.carry(0, 3);
        x.keep();
        x.stuff(3);
        x.carry(1, 0);
        x.keep();
        x.hour();
        x.carry(2, 4);
        x.stuff(1);
        x.carry(3, 2);
        x.hour();
        for (int k = 0; k < 8; k++) {
            x.heard(k % 4, k, x.night(k) >> k % 4 & 1);
        }
        return Inns.add(x, "c4");
    }

    private void nothingChanges() {
        sentence("nothing changes then.");
        said.unchanged("write BAD", HeardBounds::busy, x -> {
            said.due("write(31)", x.write(31), BAD);
            said.due("write(127)", x.write(127), BAD);
        });
        said.unchanged("carry BAD", HeardBounds::busy, x -> {
            said.due("carry(0, 5)", x.carry(0, 5), BAD);
            said.due("carry(4, 1)", x.carry(4, 1), BAD);
            said.due("carry(-1, -1)", x.carry(-1, -1), BAD);
        });
        said.unchanged("carry NO", HeardBounds::busy, x -> {
            said.due("carry(0, 0)", x.carry(0, 0), NO);
            said.due("carry(0, 3)", x.carry(0, 3), NO);
        });
        said.unchanged("stuff BAD", HeardBounds::busy, x -> {
            said.due("stuff(4)", x.stuff(4), BAD);
            said.due("stuff(-1)", x.stuff(-1), BAD);
            said.due("stuff(32)", x.stuff(32), BAD);
        });
        said.unchanged("heard FULL and BAD", HeardBounds::busy, x -> {
            said.due("heard(0, 0, 0)", x.heard(0, 0, 0), FULL);
            said.due("heard(4, 0, 0)", x.heard(4, 0, 0), BAD);
        });
        said.unchanged("keep FULL", HeardBounds::busy, x -> said.due("keep()", x.keep(), FULL));
        said.unchanged("lay NO", HeardBounds::busy, x -> said.due("lay() of c4", x.lay(), NO));
        said.unchanged("lay, undo and back NO", BedsBySnore::new, x -> {
            said.due("lay()", x.lay(), NO);
            said.due("undo()", x.undo(), NO);
            said.due("back()", x.back(), NO);
        });
        said.unchanged("heard BAD", BedsBySnore::new, x -> {
            said.due("heard(0, 8, 0)", x.heard(0, 8, 0), BAD);
            said.due("heard(0, 0, 2)", x.heard(0, 0, 2), BAD);
        });
        said.unchanged("answers that are asked for", HeardBounds::busy, HeardBounds::ask);
        nothingIsWritten();
        backRefused();
    }

    /** What asks and does nothing, told and not told numbers. */
    private static void ask(BedsBySnore x) {
        for (int number = -1; number < 7; number++) {
            x.guest(number, 6);
            x.bed(number);
            x.wall(number);
            x.law(number);
            x.moves(number);
            x.best(7, number);
            x.wallTo(number);
            x.within(number, 0);
            x.hums(number);
        }
        x.feigned();
        x.fault();
    }

    /** The letters of a text that is full are the same behind a letter that had no room. */
    private void nothingIsWritten() {
        BedsBySnore x = Inns.written(Inns.LARGEST + "w4;".repeat(47));
        said.due("count(7)", x.count(7), 199);
        said.due("write(10)", x.write('\n'), BAD);
        said.due("fault()", x.fault(), NONE);
        said.due("write(119)", x.write('w'), 200);
        said.due("write(52)", x.write('4'), FULL);
        said.due("fault() of the letter that has no end", x.fault(), 199);
        said.due("lay()", x.lay(), NO);
        said.due("count(7), the text stays", x.count(7), 200);
    }

    private void backRefused() {
        BedsBySnore x = Inns.later(new BedsBySnore(), 3);
        said.due("back() to nothing", x.back(), NO);
        said.due("count(2), the hour stays", x.count(2), 3);
        said.due("undo(), what can be undone stays", x.undo(), 2);
    }
}

/** The bounds that the document's section "Terms" names, up to NIGHT. */
final class TermBounds {
    private static final int NO = -2, NONE = -4;
    private static final String FIRST = "n6;g0,12,3,9,0;g1,8,7,6,1;g2,10,0,14,3;g3,6,10,5,4;w3;c8;r7;";

    /** Five in a row who wake by one another in every hour. */
    private static final String WAKEFUL = "g0,1,0,1,0;g0,1,0,1,1;g0,1,0,1,2;g0,1,0,1,3;g0,1,0,1,4;r1;";

    private final Sentences said;

    TermBounds(Sentences said) {
        this.said = said;
    }

    void all() {
        laid();
        hours();
        loud();
        hears();
        hums();
        wakes();
        carried();
        wallsAndHours();
        undone();
        law();
        moves();
        movesInOrder();
        best();
        stuff();
        within();
        night();
    }

    private void sentence(String words) {
        said.sentence("Terms", words);
    }

    private void laid() {
        sentence("LAID is a TEXT without FAULT, of a GUEST at least (NO else;");
        String[] refused = {"", "n6;", "n6;w0;c8;r7;", "x", "n6;g0,0,0,1,0", "n6;g0,0,0,1,0;x", "n7;g0,0,0,1,0;",
            "n2;g0,0,0,1,0;g0,0,0,1,1;"};
        for (String text : refused) {
            said.due("lay() of " + text, Inns.written(text).lay(), NO);
            said.unchanged("lay() of " + text, () -> Inns.written(text), BedsBySnore::lay);
        }
        said.due("lay() of one", Inns.written("g0,0,0,1,0;").lay(), 1);
        said.due("lay() of one in two beds", Inns.written(Inns.SMALLEST).lay(), 1);
        said.due("lay() of five", Inns.written(Inns.LARGEST).lay(), 5);
        sentence("at first " + FIRST + ")");
        BedsBySnore told = Inns.laid(FIRST);
        told.wipe();
        said.same("a new one and one that was told", Inns.unwound(new BedsBySnore()), Inns.unwound(told));
    }

    private void hours() {
        sentence("Hours are 0 to 7, and 7 from then on.");
        BedsBySnore x = Inns.laid("g1,0,0,1,0;");
        int[] loud = {14, 12, 10, 8, 6, 4, 2, 0, 0, 0};
        for (int k = 0; k < loud.length; k++) {
            said.due("count(2) behind " + k + " hours", x.count(2), Math.min(7, k));
            said.due("guest(0, 5) behind " + k + " hours", x.guest(0, 5), loud[k]);
            said.due("hour() no. " + (k + 1), x.hour(), Math.min(7, k + 1));
        }
    }

    private void loudIs(int kind, int l, int... byHour) {
        BedsBySnore x = Inns.laid("g" + kind + "," + l + ",0,1,0;");
        for (int hour = 0; hour < byHour.length; hour++) {
            said.due("guest(0, 5) of L " + l + " behind " + hour + " hours", x.guest(0, 5), byHour[hour]);
            x.hour();
        }
    }

    private void loud() {
        sentence("LOUD is in an hour a PLAIN one: L;");
        loudIs(0, 0, 0, 0, 0, 0, 0, 0, 0, 0, 0);
        loudIs(0, 30, 30, 30, 30, 30, 30, 30, 30, 30, 30);
        sentence("a DRUNK one: L and twice (7 less the hour), 40 at most;");
        loudIs(1, 0, 14, 12, 10, 8, 6, 4, 2, 0, 0);
        loudIs(1, 25, 39, 37, 35, 33, 31, 29, 27, 25, 25);
        loudIs(1, 26, 40, 38, 36, 34, 32, 30, 28, 26, 26);
        loudIs(1, 27, 40, 39, 37, 35, 33, 31, 29, 27, 27);
        loudIs(1, 30, 40, 40, 40, 38, 36, 34, 32, 30, 30);
        sentence("a FITFUL one: L in hours of even number, nothing else;");
        loudIs(2, 0, 0, 0, 0, 0, 0, 0, 0, 0, 0);
        loudIs(2, 30, 30, 0, 30, 0, 30, 0, 30, 0, 0);
        sentence("a FEIGNING one: L, and 10 more in hours 0 to 2.");
        loudIs(3, 0, 10, 10, 10, 0, 0, 0, 0, 0, 0);
        loudIs(3, 30, 40, 40, 40, 30, 30, 30, 30, 30, 30);
    }

    /** What the guests hear, one by one. */
    private void hear(String text, int... want) {
        BedsBySnore x = Inns.laid(text);
        for (int i = 0; i < want.length; i++) {
            said.due("guest(" + i + ", 6) of " + text, x.guest(i, 6), want[i]);
        }
    }

    private void hears() {
        sentence("A GUEST HEARS what those on next BEDS are LOUD, together,");
        hear("n2;g0,30,0,1,1;r1;", 0);
        // the first bed and the last one are not next to one another
        hear("n6;g0,30,0,1,0;g0,29,0,1,5;r1;", 0, 0);
        hear("n3;g0,30,0,1,0;g0,29,0,1,2;r1;", 0, 0);
        hear("n6;g0,30,0,1,0;g0,29,0,1,1;r1;", 29, 30);
        hear("n6;g0,30,0,1,4;g0,29,0,1,5;r1;", 29, 30);
        hear("n6;g0,30,0,1,2;g0,29,0,1,4;r1;", 0, 0);
        hear("n6;g0,1,0,1,2;g0,2,0,1,3;g0,4,0,1,4;r1;", 2, 5, 2);
        hear("n6;g0,0,0,1,2;g0,0,0,1,3;g0,0,0,1,4;r1;", 0, 0, 0);
        sentence("each half of it (cut), if the wall between is STUFFED;");
        hear("n6;g0,0,0,1,0;g0,1,0,1,1;w0;r1;", 0, 0);
        hear("n6;g0,2,0,1,0;g0,3,0,1,1;w0;r1;", 1, 1);
        hear("n6;g0,2,0,1,5;g0,3,0,1,4;w4;r1;", 1, 1);
        hear("n6;g0,7,0,1,2;g0,5,0,1,3;g0,7,0,1,4;w2;w3;r1;", 2, 6, 2);
        hear("n6;g0,7,0,1,2;g0,5,0,1,3;g0,7,0,1,4;w2;r1;", 2, 10, 5);
        hear("n6;g0,7,0,1,2;g0,5,0,1,3;g0,7,0,1,4;w1;w4;r1;", 5, 14, 5);
        BedsBySnore x = Inns.laid("n6;g0,7,0,1,2;g0,5,0,1,3;r1;");
        x.stuff(2);
        said.due("guest(1, 6) behind stuff(2)", x.guest(1, 6), 3);
        x.stuff(2);
        said.due("guest(1, 6) behind stuff(2) once more", x.guest(1, 6), 7);
        sentence("and 4 more for each such one with whom he HUMS:");
        hear("n6;g0,0,6,1,2;g0,0,6,1,3;g0,0,6,1,4;r0;", 4, 8, 4);
        hear("n6;g1,30,6,1,2;g1,30,6,1,3;g1,30,6,1,4;r0;", 44, 88, 44);
        hear("n6;g0,7,6,1,2;g0,5,6,1,3;g0,7,6,1,4;w2;w3;r0;", 6, 14, 6);
        hear("n6;g0,7,6,1,2;g0,5,6,1,3;g0,7,5,1,4;r0;", 9, 18, 5);
        hear("n6;g0,7,6,1,1;g0,5,6,1,3;g0,7,6,1,5;r0;", 0, 0, 0);
        BedsBySnore silent = Inns.later(Inns.laid("n3;g2,9,6,40,0;g0,1,6,4,1;r0;"), 1);
        said.due("guest(1, 6) next to a silent one", silent.guest(1, 6), 4);
    }

    private void hums() {
        sentence("whose NOTE and his differ by the room's NOTE, either way, or are it together.");
        for (int r = 0; r <= 12; r++) {
            for (int a = 0; a <= 12; a++) {
                for (int b = 0; b <= 12; b++) {
                    boolean hum = a == b + r || b == a + r || r == a + b;
                    String text = "n3;g0,0," + a + ",1,0;g0,0," + b + ",1,1;r" + r + ";";
                    BedsBySnore x = Inns.laid(text);
                    said.due("hums(0) of " + text, x.hums(0), hum ? 2 : 0);
                    said.due("guest(1, 6) of " + text, x.guest(1, 6), hum ? 4 : 0);
                }
            }
        }
    }

    private void wakes() {
        sentence("He WAKES who HEARS S or more.");
        for (int s = 1; s <= 40; s++) {
            for (int loud = Math.max(0, s - 1); loud <= Math.min(30, s + 1); loud++) {
                BedsBySnore x = Inns.laid("n3;g0,0,0," + s + ",0;g0," + loud + ",0,40,1;r1;");
                said.due("guest(0, 7) of S " + s + " by " + loud, x.guest(0, 7), loud >= s ? 1 : 0);
            }
        }
        said.due("guest(0, 7) of S 40 by 40", Inns.laid("n3;g0,0,0,40,0;g1,26,0,1,1;r1;").guest(0, 7), 1);
        said.due("guest(0, 7) of S 40 by 39", Inns.laid("n3;g0,0,0,40,0;g1,25,0,1,1;r1;").guest(0, 7), 0);
        said.due("guest(0, 7) of S 1 by nobody", Inns.laid(Inns.SMALLEST).guest(0, 7), 0);
    }

    /** Guest 0 in a bed, another one empty, all others in theirs, as light as told; porters are 8 loud. */
    private static BedsBySnore crowd(int from, int to, int light) {
        StringBuilder text = new StringBuilder("g0,0,0,1," + from + ";");
        for (int b = 0; b < 6; b++) {
            if (b != from && b != to) {
                text.append("g0,0,0,").append(light).append(',').append(b).append(';');
            }
        }
        return Inns.laid(text.toString());
    }

    private void carried() {
        sentence("those in BEDS between (neither) whose S is no more than PORTERS are loud WAKE by it; he does not.");
        for (int from = 0; from < 6; from++) {
            for (int to = 0; to < 6; to++) {
                if (from != to) {
                    int bits = 0;
                    int i = 1;
                    for (int b = 0; b < 6; b++) {
                        bits |= b > Math.min(from, to) && b < Math.max(from, to) ? 1 << i : 0;
                        i += b != from && b != to ? 1 : 0;
                    }
                    String call = "carry(0, " + to + ") from " + from;
                    said.due(call + " past S 8", crowd(from, to, 8).carry(0, to), bits);
                    said.due(call + " past S 1", crowd(from, to, 1).carry(0, to), bits);
                    said.due(call + " past S 9", crowd(from, to, 9).carry(0, to), 0);
                }
            }
        }
        sentence("CARRIED is a GUEST to an empty BED:");
        BedsBySnore x = Inns.laid(Inns.LARGEST);
        for (int b = 0; b < 5; b++) {
            said.due("carry(0, " + b + ") to a BED that is not", x.carry(0, b), NO);
        }
        said.due("carry(0, 5)", x.carry(0, 5), 30);
        said.due("bed(5)", x.bed(5), 0);
        said.due("bed(0)", x.bed(0), NONE);
        said.due("carry(4, 0) to the BED that he left", x.carry(4, 0), 2 + 4 + 8);
        sentence("STEPS are how many BEDS he goes on, either way.");
        for (int from = 0; from < 6; from++) {
            for (int to = 0; to < 6; to++) {
                BedsBySnore one = Inns.laid("g0,0,0,1," + from + ";");
                one.carry(0, to);
                said.due("steps(0) from " + from + " to " + to, one.steps(0), Math.abs(from - to));
            }
        }
    }

    private void wallsAndHours() {
        sentence("A wall can be STUFFED or not; an hour goes by.");
        BedsBySnore x = Inns.laid(Inns.LARGEST);
        for (int p = 0; p < 5; p++) {
            said.due("stuff(" + p + ")", x.stuff(p), 1);
            said.due("count(3)", x.count(3), p + 1);
        }
        for (int p = 0; p < 5; p++) {
            said.due("stuff(" + p + ") again", x.stuff(p), 0);
            said.due("count(3)", x.count(3), 4 - p);
        }
        said.due("hour()", x.hour(), 1);
    }

    private void undone() {
        sentence("UNDONE is the latest of these (the last 8 can be).");
        BedsBySnore x = Inns.laid("g0,0,0,1,0;");
        said.due("undo() of nothing", x.undo(), NO);
        int[] beds = {1, 2, 3, 4, 5, 4, 3, 2, 1, 0};
        for (int k = 0; k < beds.length; k++) {
            x.carry(0, beds[k]);
            said.due("count(5) behind " + (k + 1) + " acts", x.count(5), Math.min(8, k + 1));
        }
        for (int k = 8; k >= 1; k--) {
            said.due("undo() of act " + (k + 2), x.undo(), k - 1);
            said.due("guest(0, 4)", x.guest(0, 4), beds[k]);
            said.due("steps(1)", x.steps(1), k + 1);
        }
        said.due("undo() of act 2", x.undo(), NO);
        said.due("guest(0, 4) as it was", x.guest(0, 4), 2);
        said.due("steps(0) as it was", x.steps(0), 2);
        BedsBySnore past = Inns.laid("g0,0,0,1,0;g0,0,0,1,1;g0,0,0,1,2;");
        past.carry(0, 3);
        past.carry(0, 5);
        past.undo();
        said.due("steps(0) of the first carry", past.steps(0), 3);
        said.due("steps(1) of the first carry", past.steps(1), 1);
        said.due("steps(2) of the first carry", past.steps(2), 2);
        undoneOfEachKind();
    }

    private void undoneOfEachKind() {
        BedsBySnore x = new BedsBySnore();
        x.carry(0, 2);
        x.stuff(3);
        x.hour();
        said.due("undo() of an hour", x.undo(), 2);
        said.due("count(2)", x.count(2), 0);
        said.due("undo() of a wall", x.undo(), 1);
        said.due("wall(3)", x.wall(3), 1);
        said.due("undo() of a carry", x.undo(), 0);
        said.due("bed(0)", x.bed(0), 0);
        BedsBySnore late = Inns.later(new BedsBySnore(), 8);
        said.due("undo() of an hour behind hour 7", late.undo(), 7);
        said.due("count(2), it is hour 7 yet", late.count(2), 7);
        said.due("undo() of hour 7", late.undo(), 6);
        said.due("count(2), it is hour 6", late.count(2), 6);
        for (int k = 0; k < 3; k++) {
            late.stuff(k);
        }
        said.due("count(5) behind new acts", late.count(5), 8);
        for (int k = 7; k >= 0; k--) {
            said.due("undo() of new acts and old ones", late.undo(), k);
        }
        said.due("undo() of no more", late.undo(), NO);
        said.due("count(2), the first hour went by", late.count(2), 1);
    }

    private void lawIs(String text, int... beds) {
        BedsBySnore x = Inns.laid(text);
        for (int i = 0; i < beds.length; i++) {
            said.due("law(" + i + ") of " + text, x.law(i), beds[i]);
        }
    }

    private void law() {
        sentence("THE LAW: all in order by how LOUD they are in this hour, the loudest first,"
                + " of alike ones the lowest number first:");
        lawIs("g0,1,0,1,0;g0,2,0,1,1;g0,3,0,1,2;g0,4,0,1,3;g0,5,0,1,4;", 2, 4, 1, 5, 0);
        lawIs("g0,9,0,1,4;g0,9,0,1,3;g0,9,0,1,2;g0,9,0,1,1;g0,9,0,1,0;", 0, 5, 1, 4, 2);
        lawIs("g0,8,0,1,4;g0,9,0,1,3;g0,8,0,1,2;g0,9,0,1,1;g0,8,0,1,0;", 1, 0, 4, 5, 2);
        // 40 of a drunk one, of a feigning one, of one whom 40 stops
        lawIs("g0,30,0,1,4;g1,26,0,1,3;g3,30,0,1,2;g1,30,0,1,1;", 4, 0, 5, 1);
        BedsBySnore x = Inns.laid("n3;g2,30,0,1,0;g0,0,0,1,1;");
        said.due("law(0) in hour 0", x.law(0), 0);
        x.hour();
        said.due("law(0) in hour 1, both are not loud", x.law(0), 0);
        sentence("the first one is to be in BED 0, the second in the last one, the third in BED 1,"
                + " the fourth in the last but one, the fifth in BED 2.");
        lawIs("n2;g0,9,0,1,1;", 0);
        lawIs("n3;g0,9,0,1,1;g0,8,0,1,0;", 0, 2);
        lawIs("n4;g0,9,0,1,1;g0,8,0,1,0;g0,7,0,1,2;", 0, 3, 1);
        lawIs("n5;g0,9,0,1,1;g0,8,0,1,0;g0,7,0,1,2;g0,6,0,1,3;", 0, 4, 1, 3);
        lawIs("n6;g0,9,0,1,1;g0,8,0,1,0;g0,7,0,1,2;g0,6,0,1,3;g0,5,0,1,4;", 0, 5, 1, 4, 2);
        lawIs("n6;g0,9,0,1,1;", 0);
        lawIs("n6;g0,9,0,1,1;g0,8,0,1,0;", 0, 5);
        sentence("LAWFUL is whether all are so.");
        BedsBySnore lawful = Inns.laid("g0,9,0,1,0;g0,8,0,1,5;g0,7,0,1,1;g0,6,0,1,4;g0,5,0,1,2;");
        said.due("law(-1)", lawful.law(-1), 1);
        for (int i = 0; i < 5; i++) {
            lawful.carry(i, 3);
            said.due("law(-1) but for " + i, lawful.law(-1), 0);
            lawful.undo();
            said.due("law(-1) again", lawful.law(-1), 1);
        }
        said.due("law(-1) of one in BED 0", Inns.laid("n2;g0,0,0,1,0;").law(-1), 1);
        said.due("law(-1) of one in the last BED", Inns.laid("n2;g0,0,0,1,1;").law(-1), 0);
    }

    private void movesAre(String text, int many, int first) {
        BedsBySnore x = Inns.laid(text);
        said.due("moves(0) of " + text, x.moves(0), many);
        said.due("moves(1) of " + text, x.moves(1), first);
    }

    private void moves() {
        sentence("MOVES: the fewest times that somebody has to be CARRIED, nobody WAKING by it,"
                + " till all are by THE LAW of this hour;");
        movesAre("n2;g0,9,0,1,0;", 0, NONE);
        movesAre("n2;g0,9,0,1,1;", 1, 0);
        // 0 is to go past 1, or 1 past 0
        movesAre("n3;g0,9,0,9,2;g0,5,0,9,1;c8;", 2, 0);
        movesAre("n3;g0,9,0,8,2;g0,5,0,9,1;c8;", 2, 0);
        movesAre("n3;g0,9,0,9,2;g0,5,0,8,1;c8;", 4, 8);
        movesAre("n3;g0,9,0,8,2;g0,5,0,8,1;c8;", NONE, NONE);
        movesAre("n3;g0,9,0,1,2;g0,5,0,1,1;c0;", 2, 0);
        movesAre("n3;g0,9,0,40,2;g0,5,0,40,1;c40;", NONE, NONE);
        movesAre("n3;g0,9,0,40,2;g0,5,0,40,1;c39;", 2, 0);
        // all wake by porters, but nobody has to go past another
        movesAre("g0,9,0,1,1;g0,8,0,1,5;g0,7,0,1,2;g0,6,0,1,4;g0,5,0,1,3;c40;", 3, 0);
        // from the first way of all to lie, and from the last one
        movesAre("n3;g0,5,0,9,0;g0,9,0,9,1;c8;", 2, 2);
        movesAre("g0,9,0,9,5;g0,8,0,9,4;g0,7,0,9,3;g0,6,0,9,2;g0,5,0,9,1;c8;", 5, 0);
        BedsBySnore x = Inns.laid("n3;g2,9,0,9,0;g0,5,0,9,2;c8;");
        said.due("moves(0) in hour 0", x.moves(0), 0);
        x.hour();
        said.due("moves(0) in hour 1", x.moves(0), 3);
        x.hour();
        said.due("moves(0) in hour 2", x.moves(0), 0);
    }

    private void movesInOrder() {
        sentence("of several ways the first (by the first one's GUEST, then BED, then the next one): how many;"
                + " the first one as 8 times the GUEST and the BED; none.");
        movesAre("n6;g0,9,0,1,1;g0,8,0,1,4;c0;", 2, 0);
        movesAre("n6;g0,8,0,1,1;g0,9,0,1,4;c0;", 2, 5);
        movesAre("n6;g0,8,0,1,0;g0,9,0,1,5;c0;", 3, 1);
        // the highest guest to the highest bed, and to the lowest
        movesAre("g0,9,0,1,0;g0,7,0,1,1;g0,6,0,1,4;g0,5,0,1,2;g0,8,0,1,3;c0;", 1, 8 * 4 + 5);
        movesAre("g0,8,0,1,5;g0,7,0,1,1;g0,6,0,1,4;g0,5,0,1,2;g0,9,0,1,3;c0;", 1, 8 * 4);
        movesAre("g0,9,0,1,0;g0,8,0,1,5;g0,7,0,1,1;g0,6,0,1,4;g0,5,0,1,2;c40;", 0, NONE);
    }

    private void bestIs(String text, int hour, int many, int... beds) {
        BedsBySnore x = Inns.laid(text);
        said.due("best(" + hour + ", -1) of " + text, x.best(hour, -1), many);
        for (int i = 0; i < beds.length; i++) {
            said.due("best(" + hour + ", " + i + ") of " + text, x.best(hour, i), beds[i]);
        }
    }

    private void best() {
        sentence("BEST in an hour: of all ways to lay all GUESTS in BEDS that in which fewest WAKE in that hour,"
                + " of several the first (by GUEST 0's BED, then 1's, ..): how many; in which BED a GUEST is.");
        for (int hour = 0; hour < 8; hour++) {
            bestIs(Inns.SMALLEST, hour, 0, 0);
        }
        bestIs("g0,0,0,1,5;g0,0,0,1,4;g0,0,0,1,3;g0,0,0,1,2;g0,0,0,1,1;r1;", 0, 0, 0, 1, 2, 3, 4);
        bestIs(WAKEFUL, 0, 4, 0, 1, 2, 3, 5);
        // the drunk one is 14 loud in hour 0, 2 in hour 6, not at all in hour 7
        bestIs("n3;g1,0,0,40,0;g0,0,0,15,1;r1;", 0, 0, 0, 1);
        bestIs("n3;g1,0,0,40,0;g0,0,0,14,1;r1;", 0, 0, 0, 2);
        bestIs("n3;g1,0,0,40,0;g0,0,0,1,1;r1;", 6, 0, 0, 2);
        bestIs("n3;g1,0,0,40,0;g0,0,0,1,1;r1;", 7, 0, 0, 1);
        // of two ways in which nobody wakes 0's bed goes ahead of 1's
        bestIs("n4;g0,9,0,1,3;g0,9,0,40,2;g0,0,0,40,1;r1;", 0, 0, 0, 2, 1);
        // the walls are as they are now: 1 is heard half behind a stuffed one
        bestIs("n3;g0,1,0,1,0;g0,1,0,1,1;w0;r1;", 0, 0, 0, 1);
        bestIs("n3;g0,1,0,1,0;g0,1,0,1,1;w1;r1;", 0, 0, 0, 2);
        bestIs("n4;g0,1,0,1,0;g0,1,0,1,1;g0,1,0,1,2;w2;r1;", 0, 0, 0, 2, 3);
        BedsBySnore late = Inns.later(Inns.laid("n3;g1,0,0,40,0;g0,0,0,14,1;r1;"), 9);
        said.due("best(0, 1) in hour 7", late.best(0, 1), 2);
        said.due("best(7, 1) in hour 7", late.best(7, 1), 1);
    }

    private void wallToIs(String text, int wall, int many) {
        BedsBySnore x = Inns.laid(text);
        said.due("wallTo(0) of " + text, x.wallTo(0), wall);
        said.due("wallTo(1) of " + text, x.wallTo(1), many);
        Inns.later(x, 8);
        said.due("wallTo(0) in hour 7 of " + text, x.wallTo(0), wall);
        said.due("wallTo(1) in hour 7 of " + text, x.wallTo(1), many);
    }

    private void stuff() {
        sentence("STUFF: the wall (not STUFFED yet) by which, were it, too, fewest WAKE in all hours 0 to 7 together"
                + " as all lie now, of several the first: it; how many; none.");
        wallToIs("n2;g0,9,0,1,1;", 0, 0);
        wallToIs("n2;g0,9,0,1,1;w0;", NONE, NONE);
        wallToIs("g0,9,0,1,1;w0;w1;w2;w3;w4;", NONE, NONE);
        wallToIs("g0,9,0,1,1;w0;w1;w2;w3;", 4, 0);
        wallToIs("g0,9,0,1,1;w1;w2;w3;w4;", 0, 0);
        // half of 9 is 4: it wakes who is so light, not who is less
        wallToIs("g0,9,0,5,4;g0,9,0,5,5;r1;", 4, 0);
        wallToIs("g0,9,0,4,4;g0,9,0,4,5;r1;", 0, 16);
        wallToIs("g0,9,0,5,0;g0,9,0,5,1;g0,9,0,5,4;g0,9,0,5,5;r1;", 0, 16);
        // the far pair is woken in hour 0 alone, the near one never
        wallToIs("g0,0,0,1,0;g0,0,0,1,1;g1,0,0,40,4;g0,0,0,13,5;r1;", 4, 0);
        wallToIs("g0,0,0,1,0;g0,0,0,1,1;g1,0,0,40,4;g0,0,0,13,5;w4;r1;", 0, 0);
        wallToIs(WAKEFUL, 0, 40 - 8);
        wallToIs("g0,2,0,1,0;g0,2,0,1,1;g0,2,0,1,2;g0,2,0,1,3;g0,2,0,1,4;r1;", 0, 40);
    }

    private void withinIs(BedsBySnore x, int d, int many, int... beds) {
        said.due("within(" + d + ", -1)", x.within(d, -1), many);
        for (int i = 0; i < beds.length; i++) {
            said.due("within(" + d + ", " + i + ")", x.within(d, i), beds[i]);
        }
    }

    private void within() {
        sentence("WITHIN d (0 to 40) in this hour: of all ways to lay all in BEDS those in which any two on next BEDS"
                + " differ by no more than d in how LOUD they are: how many; the first (as BEST) GUEST by GUEST;");
        // 40 and 0 loud in hour 0, 38 in hour 3
        BedsBySnore two = Inns.laid("n3;g1,30,0,1,1;g0,0,0,1,2;");
        said.range("within(.., -1)", 0, 40, d -> two.within(d, -1));
        withinIs(two, 40, 6, 0, 1);
        withinIs(two, 39, 2, 0, 2);
        withinIs(two, 0, 2, 0, 2);
        Inns.later(two, 3);
        withinIs(two, 38, 6, 0, 1);
        withinIs(two, 37, 2, 0, 2);
        withinIs(Inns.laid(Inns.SMALLEST), 0, 2, 0);
        withinIs(Inns.laid("g0,9,0,1,5;g0,9,0,1,4;g0,9,0,1,3;g0,9,0,1,2;g0,9,0,1,1;"), 0, 720, 0, 1, 2, 3, 4);
        withinIs(Inns.laid(Inns.LARGEST), 4, 720, 0, 1, 2, 3, 4);
        sentence("none (there is no such way, whatever is asked).");
        BedsBySnore three = Inns.laid("n4;g1,30,0,1,0;g0,20,0,1,1;g0,0,0,1,2;");
        withinIs(three, 40, 24, 0, 1, 2);
        withinIs(three, 39, 12, 0, 1, 2);
        withinIs(three, 20, 12, 0, 1, 2);
        withinIs(three, 19, NONE, NONE, NONE, NONE);
        withinIs(three, 0, NONE, NONE, NONE, NONE);
        withinIs(Inns.laid(Inns.LARGEST), 0, NONE, NONE, NONE, NONE, NONE, NONE);
    }

    private void night() {
        sentence("NIGHT: how many WAKE in which hours: for an hour (bits); in all 8 hours together, as all lie now.");
        BedsBySnore all = Inns.laid(WAKEFUL);
        BedsBySnore none = Inns.laid(Inns.SMALLEST);
        BedsBySnore feigning = Inns.laid("n3;g3,0,0,40,0;g0,0,0,10,1;r1;");
        BedsBySnore drunk = Inns.laid("n3;g1,0,0,40,0;g0,0,0,14,1;r1;");
        for (int hour = 0; hour < 8; hour++) {
            said.due("night(" + hour + ") of all", all.night(hour), 31);
            said.due("night(" + hour + ") of nobody", none.night(hour), 0);
            said.due("night(" + hour + ") by a feigning one", feigning.night(hour), hour <= 2 ? 2 : 0);
            said.due("night(" + hour + ") by a drunk one", drunk.night(hour), hour == 0 ? 2 : 0);
        }
        said.due("night(-1) of all", all.night(-1), 40);
        said.due("night(-1) of nobody", none.night(-1), 0);
        said.due("night(-1) by a feigning one", feigning.night(-1), 3);
        said.due("night(-1) by a drunk one", Inns.later(drunk, 9).night(-1), 1);
        all.carry(4, 5);
        said.due("night(0) as all lie now, the last one alone", all.night(0), 15);
        said.due("night(-1) as all lie now, the last one alone", all.night(-1), 32);
    }
}

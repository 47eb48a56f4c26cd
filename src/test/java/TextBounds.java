/** The bounds that the document's first paragraph names. */
final class TextBounds {
    private static final int BAD = -1, NO = -2, FULL = -3, NONE = -4;

    private final Sentences said;

    TextBounds(Sentences said) {
        this.said = said;
    }

    void all() {
        letters();
        itemsInARow();
        itemLetters();
        figures();
        parting();
        beds();
        bedsBehindOthers();
        guestNumbers();
        guestBeds();
        guestsAtMost();
        walls();
        porters();
        roomNote();
        faultPlace();
        callsAtMost();
    }

    private void sentence(String words) {
        said.sentence("What it is", words);
    }

    private void fault(String text, int want) {
        said.due("fault() of " + text, Inns.written(text).fault(), want);
    }

    private void faultUnless(boolean so, String text) {
        fault(text, so ? NONE : 0);
    }

    /** An inn whose text was written behind others that were looked at, laid and wiped. */
    private static BedsBySnore laidBehind(String other, String text) {
        BedsBySnore x = Inns.written(other);
        x.fault();
        x.wipe();
        Inns.add(x, other + "g0,0,0,1,0;").lay();
        x.wipe();
        Inns.add(x, other + "x").fault();
        x.wipe();
        Inns.add(x, text).lay();
        return x;
    }

    private static String guest(int kind, int loud, int note, int light, int bed) {
        return "g" + kind + "," + loud + "," + note + "," + light + "," + bed + ";";
    }

    private static String guests(int many) {
        StringBuilder text = new StringBuilder();
        for (int b = 0; b < many; b++) {
            text.append(guest(0, 0, 0, 1, b));
        }
        return text.toString();
    }

    private void letters() {
        sentence("A TEXT is letters (200 at most)");
        String head = "n6;g0,12,3,9,0;g0,1,0,40,1;" + "w0;".repeat(55);
        BedsBySnore full = Inns.written(head + "c40;c39;");
        said.due("count(7) of 200 letters", full.count(7), 200);
        said.due("write(59) of letter 201", full.write(';'), FULL);
        said.due("count(7) when it is full", full.count(7), 200);
        said.due("fault() of 200 letters", full.fault(), NONE);
        said.due("lay() of 200 letters", full.lay(), 2);
        said.due("carry(0, 2), the last item counts", full.carry(0, 2), 0);
        said.due("wipe()", full.wipe(), 200);
        said.due("write(110) when it is empty again", full.write('n'), 1);

        BedsBySnore one = Inns.written(head + "c40;c39");
        said.due("count(7) of 199 letters", one.count(7), 199);
        said.due("fault() of an item without its end", one.fault(), 196);
        said.due("write(59) of letter 200", one.write(';'), 200);
        said.due("fault() with it", one.fault(), NONE);

        BedsBySnore cut = Inns.written("n6;" + "w0;".repeat(65) + "w1");
        said.due("write(59) for which there is no room", cut.write(';'), FULL);
        said.due("fault() of the item that has no room", cut.fault(), 198);
        said.due("lay() of it", cut.lay(), NO);
        said.due("fault() of no letter", new BedsBySnore().fault(), NONE);
    }

    private void itemsInARow() {
        sentence("ITEMS one behind the other");
        fault("", NONE);
        fault("n6;", NONE);
        fault("n6;w0;c8;r7;", NONE);
        fault("n6;g0,0,0,1,0;w0;g0,0,0,1,1;c8;r7;g0,0,0,1,2;", NONE);
        fault(";", 0);
        fault(" ", 0);
        fault(" n6;", 0);
        fault("n6; ", 3);
        fault("n6; w0;", 3);
        fault("n6;;w0;", 3);
        fault("n6w0;", 0);
        fault("n6,w0;", 0);
    }

    private void itemLetters() {
        sentence("each a letter, then numbers");
        for (char letter = 32; letter <= 126; letter++) {
            faultUnless("nwcr".indexOf(letter) >= 0, letter + "2;");
            faultUnless(letter == 'g', letter + "0,0,0,1,0;");
            faultUnless(false, letter + ";");
            faultUnless(false, letter + "");
        }
        fault("nn6;", 0);
        fault("6;", 0);
        fault("6n;", 0);
        fault("G0,0,0,1,0;", 0);
        for (String letter : new String[] {"n", "w", "c", "r"}) {
            fault(letter + "2,2;", 0);
            fault(letter + "2,2,2,2,2;", 0);
            fault(letter + "2,2,2,2,2,2;", 0);
        }
        fault("g0,0,0,1;", 0);
        fault("g0,0,0,1,0,0;", 0);
        fault("g0,0,0,1,0,0,0;", 0);
    }

    private void figures() {
        sentence("(one or two figures)");
        for (char figure = 32; figure <= 126; figure++) {
            faultUnless(figure >= '0' && figure <= '4', "w" + figure + ";");
            faultUnless(figure >= '0' && figure <= '3', "c" + figure + "1;");
            boolean isFigure = figure >= '0' && figure <= '9';
            fault("c1" + figure + ";", isFigure ? NONE : figure == ';' ? 3 : 0);
        }
        fault("n06;w04;c08;r07;g00,00,00,01,00;", NONE);
        fault("n006;", 0);
        fault("w000;", 0);
        fault("c008;", 0);
        fault("r007;", 0);
        fault("c100;", 0);
        fault("c4294967296;", 0);
        fault("g000,0,0,1,0;", 0);
        fault("g0,000,0,1,0;", 0);
        fault("g0,0,000,1,0;", 0);
        fault("g0,0,0,001,0;", 0);
        fault("g0,0,0,1,000;", 0);
        fault("c-1;", 0);
        fault("c+1;", 0);
        BedsBySnore x = Inns.laid("n04;g03,09,08,07,02;w01;");
        said.due("count(1) of n04", x.count(1), 4);
        said.due("guest(0, 0) of 03", x.guest(0, 0), 3);
        said.due("guest(0, 1) of 09", x.guest(0, 1), 9);
        said.due("guest(0, 2) of 08", x.guest(0, 2), 8);
        said.due("guest(0, 3) of 07", x.guest(0, 3), 7);
        said.due("guest(0, 4) of 02", x.guest(0, 4), 2);
        said.due("wall(1) of w01", x.wall(1), 1);
    }

    private void parting() {
        sentence("parted by , and a ; behind the last one:");
        fault("g0,0,0,1,0;", NONE);
        fault("g0;0;0;1;0;", 0);
        fault("g0.0.0.1.0;", 0);
        fault("g0 0 0 1 0;", 0);
        fault("g,0,0,0,1,0;", 0);
        fault("g0,,0,0,1,0;", 0);
        fault("g0,0,,1,0;", 0);
        fault("g0,0,0,1,;", 0);
        fault("g0,0,0,1,0,;", 0);
        fault("g0, 0,0,1,0;", 0);
        fault("g0,0,0,1,0 ;", 0);
        fault("g0,0,0,1,0", 0);
        fault("g0,0,0,1,0,", 0);
        fault("g0,0,0,1,0:", 0);
        fault("n6", 0);
        fault("n6,", 0);
        fault("n6,;", 0);
        fault("n,6;", 0);
    }

    private void beds() {
        sentence("nN there are N BEDS (2 to 6;");
        for (int n = 0; n <= 99; n++) {
            faultUnless(n >= 2 && n <= 6, "n" + n + ";");
        }
        for (int n = 2; n <= 6; n++) {
            said.due("count(1) of n" + n, Inns.laid("n" + n + ";g0,0,0,1,0;").count(1), n);
        }
        sentence("0, 1, .. in a row");
        for (int n = 2; n <= 6; n++) {
            BedsBySnore x = Inns.laid("n" + n + ";g0,0,0,1," + (n - 1) + ";");
            said.due("bed(-1) of " + n, x.bed(-1), BAD);
            said.due("bed(0) of " + n, x.bed(0), NONE);
            said.due("bed(" + (n - 1) + ") of " + n, x.bed(n - 1), 0);
            said.due("bed(" + n + ") of " + n, x.bed(n), BAD);
        }
        sentence("6 without;");
        BedsBySnore without = Inns.laid("g0,0,0,1,5;w4;");
        said.due("count(1)", without.count(1), 6);
        said.due("bed(5)", without.bed(5), 0);
        said.due("bed(6)", without.bed(6), BAD);
        fault("g0,0,0,1,6;", 0);
        fault("w5;", 0);
        BedsBySnore again = laidBehind("n2;", "g0,0,0,1,5;");
        said.due("count(1) behind a text of two", again.count(1), 6);
        said.due("bed(5) behind a text of two", again.bed(5), 0);
    }

    private void bedsBehindOthers() {
        sentence("no other ITEM ahead of it but n)");
        fault("g0,0,0,1,0;n6;", 11);
        fault("w0;n6;", 3);
        fault("c8;n6;", 3);
        fault("r7;n6;", 3);
        fault("n6;w0;n6;", 6);
        fault("n4;g0,0,0,1,0;n4;", 14);
        fault("n6;n6;", NONE);
        fault("n2;n3;n4;n5;n6;", NONE);
        fault("n6;n1;", 3);
        fault("n2;n6;w4;", NONE);
        fault("n6;n2;w4;", 6);
        said.due("count(1) of n6;n3;", Inns.laid("n6;n3;g0,0,0,1,0;").count(1), 3);
    }

    private void guestNumbers() {
        sentence("gK,L,T,S,B a GUEST of KIND K (0 PLAIN, 1 DRUNK, 2 FITFUL, 3 FEIGNING)");
        int[] loudInHour1 = {5, 17, 0, 15};
        for (int k = 0; k <= 99; k++) {
            faultUnless(k <= 3, guest(k, 0, 0, 1, 0));
        }
        for (int k = 0; k <= 3; k++) {
            BedsBySnore x = Inns.laid(guest(k, 5, 0, 1, 0));
            said.due("guest(0, 0) of KIND " + k, x.guest(0, 0), k);
            x.hour();
            said.due("guest(0, 5) of KIND " + k + " in hour 1", x.guest(0, 5), loudInHour1[k]);
        }
        sentence("L (0 to 30) loud");
        for (int l = 0; l <= 99; l++) {
            faultUnless(l <= 30, guest(0, l, 0, 1, 0));
        }
        said.due("guest(0, 1) of 0", Inns.laid(guest(0, 0, 0, 1, 0)).guest(0, 1), 0);
        said.due("guest(0, 1) of 30", Inns.laid(guest(0, 30, 0, 1, 0)).guest(0, 1), 30);
        sentence("of NOTE T (0 to 12)");
        for (int t = 0; t <= 99; t++) {
            faultUnless(t <= 12, guest(0, 0, t, 1, 0));
        }
        said.due("guest(0, 2) of 0", Inns.laid(guest(0, 0, 0, 1, 0)).guest(0, 2), 0);
        said.due("guest(0, 2) of 12", Inns.laid(guest(0, 0, 12, 1, 0)).guest(0, 2), 12);
        sentence("so LIGHT that S (1 to 40) wakes him");
        for (int s = 0; s <= 99; s++) {
            faultUnless(s >= 1 && s <= 40, guest(0, 0, 0, s, 0));
        }
        said.due("guest(0, 3) of 1", Inns.laid(guest(0, 0, 0, 1, 0)).guest(0, 3), 1);
        said.due("guest(0, 3) of 40", Inns.laid(guest(0, 0, 0, 40, 0)).guest(0, 3), 40);
    }

    private void guestBeds() {
        sentence("in BED B (none has it yet)");
        for (int n = 2; n <= 6; n++) {
            for (int b = 0; b <= 99; b++) {
                fault("n" + n + ";" + guest(0, 0, 0, 1, b), b < n ? NONE : 3);
            }
        }
        fault("g0,0,0,1,2;g0,0,0,1,2;", 11);
        fault("g0,0,0,1,2;g0,0,0,1,02;", 11);
        fault("g0,0,0,1,5;g0,0,0,1,0;g0,0,0,1,5;", 22);
        fault("g0,0,0,1,5;g0,0,0,1,0;g0,0,0,1,0;", 22);
        fault("g0,0,0,1,5;g0,0,0,1,0;g0,0,0,1,1;", NONE);
    }

    private void guestsAtMost() {
        sentence("5 at most, 0, 1, ..;");
        fault(guests(5), NONE);
        fault(guests(6), 55);
        fault(guests(5) + "g0,0,0,1,5;w0;", 55);
        said.due("lay() of five", Inns.laid(guests(5)).count(0), 5);
        BedsBySnore x = Inns.laid("g0,9,0,1,4;g0,8,0,1,3;g0,7,0,1,2;g0,6,0,1,1;g0,5,0,1,0;");
        for (int i = 0; i < 5; i++) {
            said.due("guest(" + i + ", 1)", x.guest(i, 1), 9 - i);
            said.due("bed(" + i + ")", x.bed(i), 4 - i);
        }
        said.due("guest(5, 1)", x.guest(5, 1), BAD);
        sentence("at least one BED stays empty");
        for (int n = 2; n <= 6; n++) {
            fault("n" + n + ";" + guests(n - 1), NONE);
            fault("n" + n + ";" + guests(n), 3 + 11 * (n - 1));
            said.due("lay() of all but one of " + n, Inns.written("n" + n + ";" + guests(n - 1)).lay(), n - 1);
            said.due("lay() of all of " + n, Inns.written("n" + n + ";" + guests(n)).lay(), NO);
        }
    }

    private void walls() {
        sentence("wP the wall behind BED P (0 to 4, not the last one) is STUFFED");
        for (int p = 0; p <= 99; p++) {
            faultUnless(p <= 4, "w" + p + ";");
        }
        for (int n = 2; n <= 6; n++) {
            for (int p = 0; p <= 6; p++) {
                fault("n" + n + ";w" + p + ";", p <= n - 2 ? NONE : 3);
            }
        }
        BedsBySnore ends = Inns.laid("w0;w4;g0,0,0,1,0;");
        int[] stuffed = {1, 0, 0, 0, 1, BAD};
        for (int p = 0; p < stuffed.length; p++) {
            said.due("wall(" + p + ")", ends.wall(p), stuffed[p]);
        }
        sentence("(no matter if told once more)");
        fault("w0;w0;", NONE);
        fault("w4;w4;w04;w4;", NONE);
        BedsBySnore twice = Inns.laid("g0,0,0,1,0;w2;w2;");
        said.due("wall(2)", twice.wall(2), 1);
        said.due("count(3)", twice.count(3), 1);
        said.due("count(3), a wall of the text before", laidBehind("w2;", "g0,0,0,1,0;").count(3), 0);
    }

    /** The bits of who wakes if guest 0 is carried past 1, of the lightness told. */
    private int pastOne(int light, String items) {
        return Inns.laid("g0,0,0,1,0;g0,0,0," + light + ",1;" + items).carry(0, 2);
    }

    private void porters() {
        sentence("cC PORTERS are C (0 to 40) loud");
        for (int c = 0; c <= 99; c++) {
            faultUnless(c <= 40, "c" + c + ";");
        }
        said.due("carry(0, 2) past S 1, C 0", pastOne(1, "c0;"), 0);
        said.due("carry(0, 2) past S 1, C 1", pastOne(1, "c1;"), 2);
        said.due("carry(0, 2) past S 40, C 39", pastOne(40, "c39;"), 0);
        said.due("carry(0, 2) past S 40, C 40", pastOne(40, "c40;"), 2);
        sentence("(8 without; the last one)");
        said.due("carry(0, 2) past S 8, no C", pastOne(8, ""), 2);
        said.due("carry(0, 2) past S 9, no C", pastOne(9, ""), 0);
        said.due("carry(0, 2) past S 8, C 40 and 0", pastOne(8, "c40;c0;"), 0);
        said.due("carry(0, 2) past S 40, C 0, 1 and 40", pastOne(40, "c0;c1;c40;"), 2);
        BedsBySnore again = laidBehind("c40;", "g0,0,0,1,0;g0,0,0,9,1;");
        said.due("carry(0, 2) past S 9, C 40 of the text before", again.carry(0, 2), 0);
    }

    /** The bits of with whom guest 0 hums, next to one of the note told, himself of note 0. */
    private int nextTo(int note, String items) {
        return Inns.laid("g0,0,0,1,0;g0,0," + note + ",1,1;" + items).hums(0);
    }

    private void roomNote() {
        sentence("rR the room's NOTE is R (0 to 12;");
        for (int r = 0; r <= 99; r++) {
            faultUnless(r <= 12, "r" + r + ";");
        }
        said.due("hums(0), R 0, notes 0 and 0", nextTo(0, "r0;"), 2);
        said.due("hums(0), R 0, notes 0 and 1", nextTo(1, "r0;"), 0);
        said.due("hums(0), R 12, notes 0 and 12", nextTo(12, "r12;"), 2);
        said.due("hums(0), R 12, notes 0 and 11", nextTo(11, "r12;"), 0);
        sentence("7 without; the last one)");
        said.due("hums(0), no R, notes 0 and 7", nextTo(7, ""), 2);
        said.due("hums(0), no R, notes 0 and 8", nextTo(8, ""), 0);
        said.due("hums(0), no R, notes 0 and 6", nextTo(6, ""), 0);
        said.due("hums(0), R 7 and 12, notes 0 and 12", nextTo(12, "r7;r12;"), 2);
        said.due("hums(0), R 12, 3 and 0, notes 0 and 12", nextTo(12, "r12;r3;r0;"), 0);
        BedsBySnore again = laidBehind("r0;", "g0,0,0,1,0;g0,0,7,1,1;");
        said.due("hums(0), R 0 of the text before", again.hums(0), 2);
    }

    private void faultPlace() {
        sentence("FAULT: the place of the first letter of the first ITEM that is not so.");
        fault("n1;", 0);
        fault("n6;c41;r13;", 3);
        fault("n6;c40;r13;w5;", 7);
        fault("n6;c40;r12;w5", 11);
        fault("g0,0,0,1,0;g0,0,0,1,1;g0,0,0,1,9;", 22);
        fault("n6;" + "w0;".repeat(64) + "c10;n", 199);
        fault("n6;" + "w0;".repeat(64) + "c10;", NONE);
        BedsBySnore x = Inns.written("n");
        said.due("fault() of n", x.fault(), 0);
        said.due("fault() once more", x.fault(), 0);
        Inns.add(x, "3;");
        said.due("fault() of n3;", x.fault(), NONE);
        Inns.add(x, "c");
        said.due("fault() of n3;c", x.fault(), 3);
    }

    private void callsAtMost() {
        sentence("An object is used for at most 512 calls after it has been made; what later calls answer is free.");
        BedsBySnore x = new BedsBySnore();
        for (int call = 1; call <= 509; call++) {
            said.due("carry(0, ..), call " + call, x.carry(0, call % 2 == 1 ? 5 : 0), 2 + 8);
        }
        said.due("steps(0), call 510", x.steps(0), 509 * 5);
        said.due("steps(1), call 511", x.steps(1), 509);
        said.due("steps(2), call 512", x.steps(2), 509 * 2);
        BedsBySnore hours = Inns.later(new BedsBySnore(), 511);
        said.due("hour(), call 512", hours.hour(), 7);
        BedsBySnore walls = new BedsBySnore();
        for (int call = 1; call <= 512; call++) {
            said.due("stuff(0), call " + call, walls.stuff(0), call % 2);
        }
    }
}

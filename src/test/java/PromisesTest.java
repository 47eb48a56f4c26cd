/** Each promise of the document by its number: ordinary inputs, the edges, wrong inputs. */
public final class PromisesTest {
    private static final int BAD = -1, NO = -2, FULL = -3, NONE = -4;
    private static final int FAR = Integer.MAX_VALUE, DEEP = Integer.MIN_VALUE;
    private static final Checks CHECKS = new Checks("PromisesTest");

    public static void main(String[] args) {
        promise1NewObject();
        promise2Write();
        promise3Wipe();
        promise4Fault();
        promise5Lay();
        promise6Guest();
        promise7Bed();
        promise8Wall();
        promise9Carry();
        promise10Stuff();
        promise11Hour();
        promise12Undo();
        promise13Law();
        promise14Moves();
        promise15Best();
        promise16WallTo();
        promise17Within();
        promise18Night();
        promise19Heard();
        promise20Forget();
        promise21Feigned();
        promise22Hums();
        promise23Odds();
        promise24Steps();
        promise25Day();
        promise26Keep();
        promise27Back();
        promise28Count();
        CHECKS.end();
    }

    private static void due(String what, long got, long want) {
        CHECKS.due(what, got, want);
    }

    private static void faultIs(String text, int want) {
        due("fault() of " + text, Inns.written(text).fault(), want);
    }

    private static void promise1NewObject() {
        BedsBySnore x = new BedsBySnore();
        int[] counts = {4, 6, 0, 1, 0, 0, 0, 0};
        for (int what = 0; what < counts.length; what++) {
            due("1 count(" + what + ")", x.count(what), counts[what]);
        }
        int[][] guests = {{0, 12, 3, 9, 0}, {1, 8, 7, 6, 1}, {2, 10, 0, 14, 3}, {3, 6, 10, 5, 4}};
        for (int i = 0; i < guests.length; i++) {
            for (int what = 0; what < 5; what++) {
                due("1 guest(" + i + ", " + what + ")", x.guest(i, what), guests[i][what]);
            }
        }
        for (int p = 0; p < 5; p++) {
            due("1 wall(" + p + ")", x.wall(p), p == 3 ? 1 : 0);
        }
        due("1 fault()", x.fault(), NONE);
        due("1 lay() of no text", x.lay(), NO);
        due("1 steps(1)", x.steps(1), 0);
        due("1 porters are 8 loud", x.carry(0, 2), 2);
        due("1 undo()", x.undo(), 0);
        // notes 7 and 0 differ by the room's 7
        x.carry(2, 2);
        due("1 the room's note is 7", x.hums(1), 4);
    }

    private static void promise2Write() {
        BedsBySnore x = new BedsBySnore();
        due("2 write(31)", x.write(31), BAD);
        due("2 write(127)", x.write(127), BAD);
        due("2 write(-1)", x.write(-1), BAD);
        due("2 write(FAR)", x.write(FAR), BAD);
        due("2 write(DEEP)", x.write(DEEP), BAD);
        due("2 count(7)", x.count(7), 0);
        due("2 write(32)", x.write(32), 1);
        due("2 write(126)", x.write(126), 2);
        for (int k = 3; k <= 200; k++) {
            due("2 write no. " + k, x.write('g'), k);
        }
        due("2 write no. 201", x.write('g'), FULL);
        due("2 BAD goes ahead of FULL", x.write(31), BAD);
        due("2 count(7) when full", x.count(7), 200);
    }

    private static void promise3Wipe() {
        BedsBySnore x = Inns.written("n1;");
        due("3 wipe()", x.wipe(), 3);
        due("3 wipe() again", x.wipe(), 0);
        due("3 fault()", x.fault(), NONE);
        due("3 write()", x.write('n'), 1);
        due("3 the inn stays", x.count(0), 4);
    }

    private static void promise4Fault() {
        faultIs("", NONE);
        faultIs("n2;", NONE);
        faultIs("n6;", NONE);
        faultIs("n06;", NONE);
        faultIs("n1;", 0);
        faultIs("n7;", 0);
        faultIs("n006;", 0);
        faultIs("n;", 0);
        faultIs("n", 0);
        faultIs("n6", 0);
        faultIs("n6,", 0);
        faultIs("n6,;", 0);
        faultIs("n,6;", 0);
        faultIs("n6,6;", 0);
        faultIs(" n6;", 0);
        faultIs("n6; ", 3);
        faultIs("n6;;", 3);
        faultIs("N6;", 0);
        faultIs("x6;", 0);
        faultIs("n3;n4;", NONE);
        faultIs("n4;n3;w2;", 6);
        faultIs("n3;n4;w2;", NONE);
        faultIs("c8;n4;", 3);
        faultIs("w0;n4;", 3);
        faultIs("g0,0,0,1,0;n4;", 11);
        faultIs("g0,0,0,1,0;", NONE);
        faultIs("g3,30,12,40,5;", NONE);
        faultIs("g4,30,12,40,5;", 0);
        faultIs("g3,31,12,40,5;", 0);
        faultIs("g3,30,13,40,5;", 0);
        faultIs("g3,30,12,41,5;", 0);
        faultIs("g3,30,12,0,5;", 0);
        faultIs("g3,30,12,40,6;", 0);
        faultIs("n5;g3,30,12,40,5;", 3);
        faultIs("g3,30,12,40;", 0);
        faultIs("g3,30,12,40,5,1;", 0);
        faultIs("g0,0,0,1,2;g0,0,0,1,2;", 11);
        faultIs("n2;g0,0,0,1,0;g0,0,0,1,1;", 14);
        faultIs("g0,0,0,1,0;g0,0,0,1,1;g0,0,0,1,2;g0,0,0,1,3;g0,0,0,1,4;", NONE);
        faultIs("g0,0,0,1,0;g0,0,0,1,1;g0,0,0,1,2;g0,0,0,1,3;g0,0,0,1,4;g0,0,0,1,5;", 55);
        faultIs("w0;w4;w0;", NONE);
        faultIs("w5;", 0);
        faultIs("n2;w0;", NONE);
        faultIs("n2;w1;", 3);
        faultIs("c0;c40;", NONE);
        faultIs("c0;c41;", 3);
        faultIs("r0;r12;", NONE);
        faultIs("r0;r13;", 3);
        faultIs("c0;r13;n1;", 3);
        BedsBySnore x = Inns.written("n3;g0,1");
        due("4 an item without an end", x.fault(), 3);
        Inns.add(x, ",2,3,1;");
        due("4 and with it", x.fault(), NONE);
        due("4 nothing is laid by it", x.count(1), 6);
    }

    private static void promise5Lay() {
        BedsBySnore x = new BedsBySnore();
        x.carry(0, 2);
        x.hour();
        x.stuff(0);
        x.heard(0, 0, 1);
        x.keep();
        Inns.add(x, "n4;w1;c3;r2;");
        due("5 no guest", x.lay(), NO);
        due("5 nothing changes", x.count(1) * 100 + x.count(5) * 10 + x.count(6), 631);
        Inns.add(x, "g3,1,2,3,1;g0,4,5,6,3;");
        due("5 lay()", x.lay(), 2);
        int[] counts = {2, 4, 0, 1, 0, 0, 0, 34};
        for (int what = 0; what < counts.length; what++) {
            due("5 count(" + what + ")", x.count(what), counts[what]);
        }
        due("5 steps", x.steps(0) + x.steps(1) + x.steps(2), 0);
        due("5 undo()", x.undo(), NO);
        due("5 back()", x.back(), NO);
        due("5 bed(1)", x.bed(1), 0);
        due("5 bed(3)", x.bed(3), 1);
        x.write('!');
        due("5 a fault", x.lay(), NO);
        due("5 it stays", x.count(0), 2);

        // what is told last counts; what is not told is 6 beds, porters 8, note 7
        BedsBySnore last = Inns.laid("c40;c5;r1;r3;g0,0,0,6,0;g0,0,3,5,1;");
        due("5 the last note", last.hums(0), 2);
        due("5 the last porters", last.carry(0, 5), 2);
        due("5 a lighter one", last.carry(1, 4), 0);
        BedsBySnore without = Inns.laid("g0,0,0,9,0;g0,0,7,8,1;");
        due("5 six beds without", without.count(1), 6);
        due("5 note 7 without", without.hums(0), 2);
        due("5 porters 8 without", without.carry(0, 5), 2);
        due("5 nine is too loud for them", without.carry(1, 0), 0);
        due("5 the last n", Inns.laid("n6;n3;g0,0,0,9,0;").count(1), 3);
    }

    private static void promise6Guest() {
        BedsBySnore x = Inns.laid("n6;g1,30,1,40,0;g1,10,2,20,1;g2,9,3,12,2;g3,7,11,1,4;w1;r5;");
        // hour by hour: drunk (40 at most), drunk, fitful, feigning
        int[][] louds = {{40, 24, 9, 17}, {40, 22, 0, 17}, {40, 20, 9, 17}, {38, 18, 0, 7}, {36, 16, 9, 7},
            {34, 14, 0, 7}, {32, 12, 9, 7}, {30, 10, 0, 7}, {30, 10, 0, 7}};
        for (int hour = 0; hour < louds.length; hour++) {
            for (int i = 0; i < 4; i++) {
                due("6 loud " + i + " in " + hour, x.guest(i, 5), louds[hour][i]);
            }
            x.hour();
        }
        BedsBySnore y = Inns.laid("n6;g1,30,1,40,0;g1,10,2,20,1;g2,9,3,12,2;g3,7,11,1,4;w1;r5;");
        due("6 hears one", y.guest(0, 6), 24);
        // 40, half of 9 cut, and 4 as 2 and 3 are 5 together
        due("6 hears two", y.guest(1, 6), 40 + 4 + 4);
        due("6 hears one through a stuffed wall, humming", y.guest(2, 6), 12 + 4);
        due("6 hears nobody", y.guest(3, 6), 0);
        due("6 sleeps", y.guest(0, 7), 0);
        due("6 wakes", y.guest(1, 7), 1);
        due("6 wakes as well", y.guest(2, 7), 1);
        due("6 hears nothing, sleeps", y.guest(3, 7), 0);
        BedsBySnore edge = Inns.laid("n3;g0,9,0,12,0;g0,12,0,10,1;r5;");
        due("6 S wakes", edge.guest(0, 7), 1);
        due("6 one less does not", edge.guest(1, 7), 0);
        int[][] wrong = {{-1, 0}, {4, 0}, {0, -1}, {0, 8}, {FAR, 0}, {DEEP, 0}, {0, FAR}, {0, DEEP}};
        for (int[] w : wrong) {
            due("6 guest(" + w[0] + ", " + w[1] + ")", y.guest(w[0], w[1]), BAD);
        }
        BedsBySnore silent = Inns.laid("n3;g2,9,2,40,0;g0,1,3,4,1;r1;");
        silent.hour();
        due("6 notes hum in silent hours", silent.guest(1, 6), 4);
    }

    private static void promise7Bed() {
        BedsBySnore x = new BedsBySnore();
        int[] in = {0, 1, NONE, 2, 3, NONE};
        for (int b = 0; b < in.length; b++) {
            due("7 bed(" + b + ")", x.bed(b), in[b]);
        }
        due("7 bed(-1)", x.bed(-1), BAD);
        due("7 bed(6)", x.bed(6), BAD);
        due("7 bed(FAR)", x.bed(FAR), BAD);
        due("7 bed(DEEP)", x.bed(DEEP), BAD);
        due("7 bed(3) of three", Inns.laid("n3;g0,0,0,1,0;").bed(3), BAD);
        due("7 bed(2) of three", Inns.laid("n3;g0,0,0,1,0;").bed(2), NONE);
    }

    private static void promise8Wall() {
        BedsBySnore x = Inns.laid("n3;g0,0,0,1,0;w1;w1;");
        due("8 wall(0)", x.wall(0), 0);
        due("8 wall(1)", x.wall(1), 1);
        due("8 wall(2)", x.wall(2), BAD);
        due("8 wall(-1)", x.wall(-1), BAD);
        due("8 wall(33)", x.wall(33), BAD);
        due("8 wall(FAR)", x.wall(FAR), BAD);
        due("8 wall(DEEP)", x.wall(DEEP), BAD);
        due("8 wall(5) of six", new BedsBySnore().wall(5), BAD);
    }

    private static void promise9Carry() {
        BedsBySnore x = Inns.laid("n6;g0,0,0,1,0;g0,0,0,8,1;g0,0,0,9,2;g0,0,0,7,3;");
        due("9 carry(0, 6)", x.carry(0, 6), BAD);
        due("9 carry(0, -1)", x.carry(0, -1), BAD);
        due("9 carry(4, 5)", x.carry(4, 5), BAD);
        due("9 carry(-1, 5)", x.carry(-1, 5), BAD);
        due("9 carry(FAR, DEEP)", x.carry(FAR, DEEP), BAD);
        due("9 BAD goes ahead of NO", x.carry(4, 1), BAD);
        due("9 a taken bed", x.carry(0, 1), NO);
        due("9 his own bed", x.carry(0, 0), NO);
        due("9 nothing changed", x.count(5) + x.steps(1), 0);
        due("9 past 1 and 3", x.carry(0, 5), 2 + 8);
        due("9 he is there", x.guest(0, 4), 5);
        due("9 his bed is empty", x.bed(0), NONE);
        due("9 back past them", x.carry(0, 0), 2 + 8);
        due("9 not past the next", x.carry(3, 4), 0);
        due("9 neither end wakes", x.carry(2, 3), 0);
        due("9 undo holds them", x.count(5), 4);
    }

    private static void promise10Stuff() {
        BedsBySnore x = new BedsBySnore();
        due("10 stuff(3)", x.stuff(3), 0);
        due("10 stuff(4)", x.stuff(4), 1);
        due("10 stuff(0)", x.stuff(0), 1);
        due("10 heard at once", x.guest(0, 6), 11);
        due("10 stuff(0) again", x.stuff(0), 0);
        due("10 heard at once again", x.guest(0, 6), 22);
        due("10 stuff(5)", x.stuff(5), BAD);
        due("10 stuff(-1)", x.stuff(-1), BAD);
        due("10 stuff(FAR)", x.stuff(FAR), BAD);
        due("10 stuff(DEEP)", x.stuff(DEEP), BAD);
        due("10 walls", x.count(3), 1);
        due("10 undo holds them", x.count(5), 4);
    }

    private static void promise11Hour() {
        BedsBySnore x = new BedsBySnore();
        for (int k = 1; k <= 10; k++) {
            due("11 hour() no. " + k, x.hour(), Math.min(7, k));
            due("11 undo holds it", x.count(5), Math.min(8, k));
        }
    }

    private static void promise12Undo() {
        BedsBySnore x = new BedsBySnore();
        due("12 undo()", x.undo(), NO);
        x.carry(0, 2);
        x.stuff(0);
        x.hour();
        due("12 undo() of an hour", x.undo(), 2);
        due("12 the hour", x.count(2), 0);
        due("12 the wall yet", x.wall(0), 1);
        due("12 undo() of a wall", x.undo(), 1);
        due("12 the wall", x.wall(0), 0);
        due("12 undo() of a carry", x.undo(), 0);
        due("12 the bed", x.bed(0), 0);
        due("12 the steps", x.steps(0) + x.steps(1) + x.steps(2), 0);
        due("12 undo() of nothing", x.undo(), NO);
        x.carry(0, 2);
        for (int k = 0; k < 8; k++) {
            x.stuff(k % 5);
        }
        for (int k = 7; k >= 0; k--) {
            due("12 undo() of the last eight", x.undo(), k);
        }
        due("12 no more", x.undo(), NO);
        due("12 the ninth stays", x.bed(2), 0);
        due("12 all walls are as before", x.count(3), 1);
        x.carry(0, 9);
        x.stuff(9);
        due("12 what was refused is none", x.undo(), NO);
    }

    private static void promise13Law() {
        // loud 5, 9, 9, 30, 1
        BedsBySnore x = Inns.laid("n6;g0,5,0,1,0;g0,9,0,1,1;g0,9,0,1,2;g0,30,0,1,3;g0,1,0,1,4;");
        int[] law = {4, 5, 1, 0, 2};
        for (int i = 0; i < law.length; i++) {
            due("13 law(" + i + ")", x.law(i), law[i]);
        }
        due("13 law(-1)", x.law(-1), 0);
        due("13 law(5)", x.law(5), BAD);
        due("13 law(-2)", x.law(-2), BAD);
        due("13 law(FAR)", x.law(FAR), BAD);
        due("13 law(DEEP)", x.law(DEEP), BAD);
        due("13 by the law", Inns.laid("n6;g0,5,0,1,4;g0,9,0,1,5;g0,9,0,1,1;g0,30,0,1,0;g0,1,0,1,2;").law(-1), 1);
        due("13 but one", Inns.laid("n6;g0,5,0,1,4;g0,9,0,1,5;g0,9,0,1,1;g0,30,0,1,0;g0,1,0,1,3;").law(-1), 0);
        due("13 but the first", Inns.laid("n6;g0,5,0,1,3;g0,9,0,1,5;g0,9,0,1,1;g0,30,0,1,0;g0,1,0,1,2;").law(-1), 0);
        BedsBySnore hours = Inns.laid("n3;g2,9,0,1,0;g0,4,0,1,2;");
        due("13 in hour 0", hours.law(-1), 1);
        hours.hour();
        due("13 in hour 1", hours.law(-1), 0);
        due("13 the silent one goes last", hours.law(0), 2);
    }

    private static void promise14Moves() {
        BedsBySnore x = new BedsBySnore();
        due("14 moves(0)", x.moves(0), 5);
        due("14 moves(1)", x.moves(1), 10);
        due("14 moves(2)", x.moves(2), BAD);
        due("14 moves(-1)", x.moves(-1), BAD);
        due("14 moves(FAR)", x.moves(FAR), BAD);
        due("14 nothing changes", x.count(5) + x.steps(1), 0);
        for (int k = 5; k > 0; k--) {
            due("14 one less each time", x.moves(0), k);
            int move = x.moves(1);
            due("14 nobody wakes", x.carry(move / 8, move % 8), 0);
        }
        due("14 there", x.law(-1), 1);
        due("14 none is needed", x.moves(0), 0);
        due("14 there is no first one", x.moves(1), NONE);
        // all wake by porters: nobody can be carried past another
        BedsBySnore stuck = Inns.laid("n3;g0,1,0,1,0;g0,2,0,1,1;c1;");
        due("14 no way", stuck.moves(0), NONE);
        due("14 no first one", stuck.moves(1), NONE);
        due("14 BAD goes ahead of NONE", stuck.moves(2), BAD);
        BedsBySnore free = Inns.laid("n3;g0,1,0,2,0;g0,2,0,2,1;c1;");
        due("14 past one who sleeps on", free.moves(0), 2);
        due("14 first", free.moves(1), 2);
        due("14 from one end to the other", Inns.laid("n6;g0,9,0,9,5;").moves(0), 1);
        // either may go first: the lower guest does; he has one way alone
        BedsBySnore two = Inns.laid("n6;g0,9,0,9,1;g0,8,0,9,4;c0;");
        due("14 two carries", two.moves(0), 2);
        due("14 the lower guest first", two.moves(1), 0);
        // 0 and 1 change beds by way of 1, 2 or 3: the lowest guest to the lowest bed
        BedsBySnore swap = Inns.laid("n5;g0,8,0,9,0;g0,9,0,9,4;c0;");
        due("14 three carries", swap.moves(0), 3);
        due("14 the lowest bed first", swap.moves(1), 1);
    }

    private static void promise15Best() {
        BedsBySnore x = new BedsBySnore();
        due("15 best(0, -1)", x.best(0, -1), 1);
        int[] places = {0, 3, 1, 5};
        for (int i = 0; i < 4; i++) {
            due("15 best(0, " + i + ")", x.best(0, i), places[i]);
        }
        due("15 best(8, 0)", x.best(8, 0), BAD);
        due("15 best(-1, 0)", x.best(-1, 0), BAD);
        due("15 best(0, 4)", x.best(0, 4), BAD);
        due("15 best(0, -2)", x.best(0, -2), BAD);
        due("15 best(FAR, DEEP)", x.best(FAR, DEEP), BAD);
        due("15 nothing changes", x.bed(1), 1);
        // apart from one another: first 0 in bed 0, 1 in bed 2
        BedsBySnore apart = Inns.laid("n4;g0,9,0,1,3;g2,9,0,1,2;r5;");
        due("15 apart", apart.best(0, -1), 0);
        due("15 0's bed", apart.best(0, 0), 0);
        due("15 1's bed", apart.best(0, 1), 2);
        due("15 alone in the first bed", Inns.laid("n2;g0,9,0,1,1;").best(7, 0), 0);
        // all wake by anybody: of five in six beds but one can lie alone
        BedsBySnore light = Inns.laid("g0,30,0,1,0;g0,30,0,1,1;g0,30,0,1,2;g0,30,0,1,3;g0,30,0,1,4;");
        due("15 four of five wake", light.best(0, -1), 4);
        due("15 the last one lies alone first of all", light.best(0, 3) * 10 + light.best(0, 4), 35);
        // 1 wakes by anybody, so he is to lie alone; 0 and 2 bear one another
        bestIs("n4;g0,5,0,10,0;g2,5,0,1,1;g0,9,0,9,2;r5;", 0, 0, 31);
        // 0 does not bear 2: one wakes in any way, and the first way of all is as good as any
        bestIs("n4;g0,5,0,9,0;g2,5,0,1,1;g0,9,0,9,2;r5;", 0, 1, 12);
        // 1 is silent in odd hours: next to him 0 sleeps, but next to 2 he himself would wake
        bestIs("n4;g0,0,0,1,0;g2,9,0,9,1;g0,9,0,9,2;r5;", 1, 0, 13);
        // only the stuffed wall makes 0 and 1 bear one another
        bestIs("n4;g0,1,0,1,0;g0,1,0,1,1;g0,30,0,1,2;w2;r5;", 0, 0, 230);
    }

    private static void bestIs(String text, int hour, int woken, int beds) {
        BedsBySnore x = Inns.laid(text);
        due("15 how many of " + text, x.best(hour, -1), woken);
        due("15 beds of " + text, x.best(hour, 0) * 100 + x.best(hour, 1) * 10 + x.best(hour, 2), beds);
    }

    private static void promise16WallTo() {
        BedsBySnore x = new BedsBySnore();
        due("16 wallTo(0)", x.wallTo(0), 0);
        due("16 wallTo(1)", x.wallTo(1), 15);
        due("16 wallTo(2)", x.wallTo(2), BAD);
        due("16 wallTo(-1)", x.wallTo(-1), BAD);
        due("16 wallTo(FAR)", x.wallTo(FAR), BAD);
        due("16 nothing changes", x.count(3), 1);
        // between 0 and 1 it helps both in all hours: 8 wakings of the far ones are left
        BedsBySnore y = Inns.laid("n6;g0,6,0,4,1;g0,6,0,4,2;g0,9,0,4,4;g0,9,0,4,5;r5;");
        due("16 all wake", y.night(-1), 32);
        due("16 the wall behind bed 1", y.wallTo(0), 1);
        due("16 how many then", y.wallTo(1), 16);
        y.stuff(1);
        due("16 none helps: the first that is not", y.wallTo(0), 0);
        due("16 as many as now", y.wallTo(1), 16);
        BedsBySnore last = Inns.laid("n6;g0,6,0,4,5;g0,6,0,4,4;r5;");
        due("16 the last wall", last.wallTo(0), 4);
        due("16 nobody then", last.wallTo(1), 0);
        BedsBySnore z = Inns.laid("n3;g0,6,0,4,1;w0;w1;");
        due("16 all are stuffed", z.wallTo(0), NONE);
        due("16 all are stuffed, how many", z.wallTo(1), NONE);
        due("16 BAD goes ahead of NONE", z.wallTo(2), BAD);
        z.stuff(0);
        due("16 one is not", z.wallTo(0), 0);
    }

    private static void promise17Within() {
        // loud 4, 9, 20 in four beds
        BedsBySnore x = Inns.laid("n4;g0,4,0,1,0;g0,9,0,1,1;g0,20,0,1,2;");
        due("17 any", x.within(40, -1), 24);
        due("17 within 16", x.within(16, -1), 24);
        // one bed is empty; 4 and 20 (0 and 2) must not be next: of 24 ways 2 * (3 * 2) have them next
        due("17 within 15", x.within(15, -1), 12);
        due("17 within 11", x.within(11, -1), 12);
        due("17 first, 0", x.within(15, 0), 0);
        due("17 first, 1", x.within(15, 1), 1);
        due("17 first, 2", x.within(15, 2), 2);
        // 2 is alone: at an end with 0 and 1 at the other
        due("17 within 5", x.within(5, -1), 4);
        due("17 first within 5", x.within(5, 0) * 100 + x.within(5, 1) * 10 + x.within(5, 2), 13);
        due("17 none", x.within(4, -1), NONE);
        due("17 none, a guest", x.within(4, 0), NONE);
        due("17 BAD goes ahead of NONE", x.within(4, 3), BAD);
        due("17 within(-1, 0)", x.within(-1, 0), BAD);
        due("17 within(41, 0)", x.within(41, 0), BAD);
        due("17 within(0, -2)", x.within(0, -2), BAD);
        due("17 within(FAR, FAR)", x.within(FAR, FAR), BAD);
        BedsBySnore y = Inns.laid("n2;g2,30,0,1,1;");
        due("17 one guest", y.within(0, -1), 2);
        due("17 one guest, first", y.within(0, 0), 0);
        BedsBySnore z = Inns.laid("n3;g2,6,0,1,1;g0,0,0,1,0;");
        due("17 in hour 0 apart", z.within(0, -1), 2);
        z.hour();
        due("17 in hour 1 alike", z.within(0, -1), 6);
    }

    private static void promise18Night() {
        BedsBySnore x = new BedsBySnore();
        due("18 night(0)", x.night(0), 11);
        due("18 night(1)", x.night(1), 3);
        due("18 night(7)", x.night(7), 2);
        due("18 night(-1)", x.night(-1), 19);
        due("18 night(8)", x.night(8), BAD);
        due("18 night(-2)", x.night(-2), BAD);
        due("18 night(FAR)", x.night(FAR), BAD);
        due("18 night(DEEP)", x.night(DEEP), BAD);
        x.hour();
        due("18 whatever the hour is", x.night(0), 11);
        due("18 all hours, whatever it is", x.night(-1), 19);
        // 2 hears 8 and 4 of 1 now, who hums with him, and half of 6 of 3
        x.carry(1, 2);
        due("18 as all lie now", x.night(7), 4);
    }

    private static void promise19Heard() {
        BedsBySnore x = new BedsBySnore();
        int[][] wrong = {{-1, 0, 0}, {4, 0, 0}, {0, -1, 0}, {0, 8, 0}, {0, 0, 2}, {0, 0, -1}, {FAR, DEEP, FAR}};
        for (int[] w : wrong) {
            due("19 heard(" + w[0] + ", " + w[1] + ", " + w[2] + ")", x.heard(w[0], w[1], w[2]), BAD);
        }
        for (int k = 1; k <= 8; k++) {
            due("19 heard no. " + k, x.heard(3, 7, k % 2), k);
        }
        due("19 heard no. 9", x.heard(0, 0, 0), FULL);
        due("19 BAD goes ahead of FULL", x.heard(0, 0, 2), BAD);
        due("19 count(4)", x.count(4), 8);
        due("19 it is no act", x.count(5), 0);
    }

    private static void promise20Forget() {
        BedsBySnore x = new BedsBySnore();
        due("20 forget()", x.forget(), 0);
        x.heard(0, 0, 0);
        x.heard(0, 0, 1);
        due("20 both cannot be", x.feigned(), 0);
        due("20 forget() of two", x.forget(), 2);
        due("20 count(4)", x.count(4), 0);
        due("20 anybody again", x.feigned(), 15);
        due("20 heard()", x.heard(0, 0, 0), 1);
    }

    private static void promise21Feigned() {
        // 0 wakes by 15 or more of 1: 10 as he is, 20 if he feigns, in hours 0 to 2
        BedsBySnore x = Inns.laid("n3;g0,10,0,15,0;g0,10,0,15,1;r5;");
        due("21 nothing was heard", x.feigned(), 3);
        x.heard(0, 2, 1);
        due("21 0 woke: 1 feigned", x.feigned(), 2);
        x.heard(1, 2, 0);
        due("21 and 1 did not", x.feigned(), 2);
        x.heard(0, 3, 1);
        due("21 not by feigning in hour 3", x.feigned(), 0);
        // who is told to feign is plain, unless he is the one
        BedsBySnore y = Inns.laid("n3;g3,10,0,15,0;g0,10,0,15,1;r5;");
        y.heard(1, 0, 0);
        due("21 1 did not wake: 0 did not feign", y.feigned(), 2);
        // a drunk or fitful one who feigns is not drunk or fitful then; else he is
        BedsBySnore z = Inns.laid("n4;g1,10,0,30,0;g0,1,0,24,1;g2,30,0,40,3;r5;");
        z.heard(1, 0, 1);
        due("21 drunk 24 wakes, feigning 20 does not", z.feigned(), 2 + 4);
        z.forget();
        z.heard(1, 0, 0);
        due("21 the other way round", z.feigned(), 1);
        BedsBySnore now = Inns.laid("n4;g0,10,0,15,0;g0,10,0,15,1;r5;");
        now.heard(0, 0, 1);
        now.carry(1, 3);
        due("21 as all lie now", now.feigned(), 0);
        now.undo();
        due("21 as all lie again", now.feigned(), 2);
    }

    private static void promise22Hums() {
        // notes in a row: 1 6 4 9 0, the room's is 5: 1-6 differ by it; 4-9 too; 9-0 no; 6-4 no
        BedsBySnore x = Inns.laid("n6;g0,0,1,1,0;g0,0,6,1,1;g0,0,4,1,2;g0,0,9,1,3;g0,0,0,1,4;r5;");
        int[] with = {2, 1, 8, 4, 0};
        for (int i = 0; i < with.length; i++) {
            due("22 hums(" + i + ")", x.hums(i), with[i]);
        }
        x.carry(0, 5);
        due("22 not next to him now", x.hums(1), 0);
        // 0 and 5 differ by it and are it together
        BedsBySnore y = Inns.laid("n4;g0,0,0,1,0;g0,0,5,1,1;g0,0,0,1,2;r5;");
        due("22 both sides", y.hums(1), 1 + 4);
        due("22 together", Inns.laid("n3;g0,0,2,1,0;g0,0,3,1,1;r5;").hums(0), 2);
        due("22 alike, room's note 0", Inns.laid("n3;g0,0,9,1,0;g0,0,9,1,1;r0;").hums(1), 1);
        due("22 hums(-1)", x.hums(-1), BAD);
        due("22 hums(5)", x.hums(5), BAD);
        due("22 hums(FAR)", x.hums(FAR), BAD);
        due("22 hums(DEEP)", x.hums(DEEP), BAD);
    }

    private static void oddsAre(BedsBySnore x, int i, int chance, int above, int below) {
        due("23 odds(" + i + ", " + chance + ", 0)", x.odds(i, chance, 0), above);
        due("23 odds(" + i + ", " + chance + ", 1)", x.odds(i, chance, 1), below);
    }

    private static void promise23Odds() {
        // 1 lies between 6 and 7 loud: either wakes by 6, both alone by 13, neither by 14
        BedsBySnore either = Inns.laid("n4;g0,6,0,40,0;g0,0,0,6,1;g0,7,0,40,2;r5;");
        oddsAre(either, 1, 0, 1, 1);
        oddsAre(either, 1, 10, 0, 1);
        oddsAre(either, 1, 5, 1, 4);
        oddsAre(either, 1, 3, 49, 100);
        oddsAre(either, 1, 4, 9, 25);
        oddsAre(either, 0, 10, 1, 1);
        BedsBySnore one = Inns.laid("n4;g0,6,0,40,0;g0,0,0,7,1;g0,7,0,40,2;r5;");
        oddsAre(one, 1, 3, 7, 10);
        BedsBySnore both = Inns.laid("n4;g0,6,0,40,0;g0,0,0,13,1;g0,7,0,40,2;r5;");
        oddsAre(both, 1, 3, 91, 100);
        oddsAre(both, 1, 10, 0, 1);
        BedsBySnore neither = Inns.laid("n4;g0,6,0,40,0;g0,0,0,14,1;g0,7,0,40,2;r5;");
        oddsAre(neither, 1, 7, 1, 1);
        // nothing at all is heard from an empty bed
        oddsAre(Inns.laid("n3;g0,6,0,40,0;g0,0,0,7,1;r5;"), 1, 10, 1, 1);
        // who does not snore does not hum: 4 are heard by the chance of 2 of ten
        oddsAre(Inns.laid("n3;g0,0,0,40,0;g0,0,5,4,1;r5;"), 1, 2, 4, 5);
        BedsBySnore hours = Inns.laid("n3;g2,9,0,40,0;g0,0,0,9,1;r5;");
        oddsAre(hours, 1, 6, 2, 5);
        hours.hour();
        oddsAre(hours, 1, 6, 1, 1);
        int[][] wrong = {{-1, 0, 0}, {3, 0, 0}, {0, -1, 0}, {0, 11, 0}, {0, 0, -1}, {0, 0, 2}, {DEEP, FAR, DEEP}};
        for (int[] w : wrong) {
            due("23 odds(" + w[0] + ", " + w[1] + ", " + w[2] + ")", both.odds(w[0], w[1], w[2]), BAD);
        }
    }

    private static void promise24Steps() {
        BedsBySnore x = Inns.laid("n6;g0,0,0,1,0;g0,0,0,8,1;g0,0,0,9,2;g0,0,0,7,3;");
        x.carry(0, 5);
        x.carry(1, 4);
        x.carry(1, 1);
        x.carry(1, 2);
        due("24 steps(0)", x.steps(0), 5 + 3 + 3);
        due("24 steps(1)", x.steps(1), 3);
        due("24 steps(2)", x.steps(2), 2 + 1 + 1);
        due("24 steps(3)", x.steps(3), BAD);
        due("24 steps(-1)", x.steps(-1), BAD);
        due("24 steps(FAR)", x.steps(FAR), BAD);
        x.undo();
        due("24 undone", x.steps(0) * 100 + x.steps(1) * 10 + x.steps(2), 823);
    }

    /** Goes through a day's draws by the acts themselves. */
    private static void dayIs(BedsBySnore x, int z, int n) {
        int woke = x.day(z, n, 0);
        int wouldWake = x.day(z, n, 1);
        int before = x.steps(2);
        for (int k = 0; k < n; k++) {
            long at = 7919L * z + 6151L * k + 1;
            int draw = (int) (at * at % 65521L) / 4;
            x.carry(draw % x.count(0), draw / 8 % x.count(1));
            if (k % 4 == 3) {
                x.hour();
            }
        }
        due("25 day(" + z + ", " + n + ", 0)", woke, x.steps(2) - before);
        due("25 day(" + z + ", " + n + ", 1)", wouldWake, Integer.bitCount(x.night(x.count(2))));
    }

    private static void promise25Day() {
        String text = "n5;g1,30,6,40,0;g1,30,6,39,4;g2,30,1,30,2;g3,30,6,8,1;r0;c40;";
        BedsBySnore x = Inns.laid(text);
        due("25 day(0, 9, 1)", x.day(0, 9, 1), 3);
        due("25 day(77, 30, 0)", x.day(77, 30, 0), 11);
        due("25 nothing changes", x.steps(1) + x.count(2) + x.count(5), 0);
        for (int z = 0; z < 10000; z += 1111) {
            for (int n = 1; n <= 30; n += 7) {
                dayIs(Inns.laid(text), z, n);
            }
        }
        BedsBySnore later = Inns.laid(text);
        later.hour();
        later.carry(1, 3);
        later.carry(0, 4);
        dayIs(later, 9999, 30);
        int[][] wrong = {{-1, 1, 0}, {10000, 1, 0}, {0, 0, 0}, {0, 31, 0}, {0, 1, 2}, {0, 1, -1}, {FAR, DEEP, FAR}};
        for (int[] w : wrong) {
            due("25 day(" + w[0] + ", " + w[1] + ", " + w[2] + ")", x.day(w[0], w[1], w[2]), BAD);
        }
    }

    private static void promise26Keep() {
        BedsBySnore x = new BedsBySnore();
        due("26 keep()", x.keep(), 1);
        due("26 keep() again", x.keep(), 2);
        due("26 keep() once more", x.keep(), FULL);
        due("26 count(6)", x.count(6), 2);
        due("26 it is no act", x.count(5), 0);
        x.back();
        due("26 there is room again", x.keep(), 2);
    }

    private static void promise27Back() {
        BedsBySnore x = new BedsBySnore();
        due("27 back()", x.back(), NO);
        x.carry(0, 2);
        x.keep();
        x.hour();
        x.stuff(0);
        x.keep();
        x.carry(0, 5);
        x.stuff(0);
        x.heard(0, 0, 0);
        due("27 back() to the last", x.back(), 1);
        due("27 bed", x.bed(2), 0);
        due("27 wall", x.wall(0), 1);
        due("27 hour", x.count(2), 1);
        due("27 steps", x.steps(0) * 100 + x.steps(1) * 10 + x.steps(2), 211);
        due("27 nothing is undone then", x.undo(), NO);
        due("27 what was heard stays", x.count(4), 1);
        x.hour();
        due("27 back() to the first", x.back(), 0);
        due("27 wall then", x.wall(0), 0);
        due("27 hour then", x.count(2), 0);
        due("27 nothing is undone then either", x.count(5), 0);
        due("27 no more", x.back(), NO);
        x.hour();
        due("27 what was refused undoes nothing", x.back(), NO);
        due("27 so it can be undone", x.undo(), 0);
    }

    private static void promise28Count() {
        BedsBySnore x = Inns.laid("n4;g0,0,0,1,0;g0,0,0,1,1;w0;w2;");
        x.stuff(1);
        x.hour();
        x.hour();
        x.hour();
        x.keep();
        x.heard(0, 0, 0);
        x.heard(0, 0, 0);
        int[] counts = {2, 4, 3, 3, 2, 4, 1, 31};
        for (int what = 0; what < counts.length; what++) {
            due("28 count(" + what + ")", x.count(what), counts[what]);
        }
        due("28 count(8)", x.count(8), BAD);
        due("28 count(-1)", x.count(-1), BAD);
        due("28 count(FAR)", x.count(FAR), BAD);
        due("28 count(DEEP)", x.count(DEEP), BAD);
    }
}

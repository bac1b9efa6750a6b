/**
 * The boundaries that the promises name, a sentence at a time: on either side, at the ends of int and long,
 * empty and full; which answer goes first; and that what is refused, or only asked, changes nothing.
 */
public final class CallsBoundaryTest extends Bench {
    // ---- bodies

    private static void newObject() {
        sentence("Promise 1", "A BODY without CORNERS.");
        CubeBodies x = new CubeBodies();
        int[] told = {0, 0, 0, 0, 0, 1, 48, 0, 0, 0, 0, 0, -5};
        for (int what = 0; what <= 12; what++) due("told " + what, x.told(what), told[what]);
        for (int corner = 0; corner < 8; corner++) due("corner " + corner, x.corner(corner, 0), 0);
        for (int what = 0; what < 4; what++) due("count " + what, x.count(what), 0);
        for (int tape = 0; tape < 6; tape++) due("tape " + tape, x.item(tape, 0, 0), NOTHING);
        due("fits", x.fits(), 255);
        due("after", x.after(0), 0);
        due("looked", x.looked(), NOT_THERE);
        due("undo", x.undo(), STATE);
        due("read", x.read(), -10);
    }

    private static void corner() {
        sentence("Promise 2", "A CORNER is in THE BODY (is 1), or not (0): whether it was (1, 0).");
        for (int corner = 0; corner < 8; corner += 7) {
            CubeBodies x = new CubeBodies();
            due("not, and wasn't", x.corner(corner, 0), 0);
            due("code", x.told(0), 0);
            due("is, and wasn't", x.corner(corner, 1), 0);
            due("code", x.told(0), 1 << corner);
            due("is, and was", x.corner(corner, 1), 1);
            due("code", x.told(0), 1 << corner);
            due("not, and was", x.corner(corner, 0), 1);
            due("code", x.told(0), 0);
            due("of all", of(255).corner(corner, 1), 1);
        }
        sentence("Promise 2", "NONE: corner; BAD.");
        refused("corner, is 0", (x, n) -> x.corner(n, 0), 0, 7, NONE);
        refused("corner, is 1", (x, n) -> x.corner(n, 1), 0, 7, NONE);
        refused("is of the first", (x, n) -> x.corner(0, n), 0, 1, BAD);
        refused("is of the last", (x, n) -> x.corner(7, n), 0, 1, BAD);
        refused("both: NONE first", (x, n) -> x.corner(n, n), 0, 7, NONE);
        still("corner 8, is 2", x -> x.corner(8, 2), NONE);
        still("corner -1, is -1", x -> x.corner(-1, -1), NONE);
    }

    private static void code() {
        sentence("Promise 3", "THE BODY becomes that of a CODE (0 .. 255): the CODE that was. BAD.");
        CubeBodies x = new CubeBodies();
        due("the greatest", x.code(255), 0);
        due("the least", x.code(0), 255);
        due("is the least", x.told(0), 0);
        refused("code", CubeBodies::code, 0, 255, BAD);
    }

    private static void move() {
        sentence("Promise 4", "THE BODY becomes its IMAGE by a MOVE: its CODE. NONE: move.");
        due("the first", of(2).move(0), 2);
        due("the last", of(2).move(47), 8);
        due("of no CORNERS", of(0).move(47), 0);
        due("of all CORNERS", of(255).move(47), 255);
        refused("move", CubeBodies::move, 0, 47, NONE);
    }

    private static void becomes() {
        sentence("Promise 5", "THE BODY becomes its FORM (how 0), all other CORNERS (1), it and KEPT, together (2),"
                + " what both have (3): its CODE.");
        int[][] all = {{0, 0, 0, 255, 0, 0}, {0, 255, 0, 255, 255, 0}, {255, 0, 255, 0, 255, 0},
            {255, 255, 255, 0, 255, 255}, {128, 1, 1, 127, 129, 0}, {1, 1, 1, 254, 1, 1}};
        for (int[] row : all) {
            for (int how = 0; how < 4; how++) {
                CubeBodies x = of(row[0], row[1]);
                due("becomes " + how + " of " + row[0] + ", " + row[1], x.becomes(how), row[2 + how]);
                due("code", x.told(0), row[2 + how]);
                due("kept", x.told(1), row[1]);
            }
        }
        sentence("Promise 5", "NONE: how.");
        refused("becomes", CubeBodies::becomes, 0, 3, NONE);
    }

    private static void keep() {
        sentence("Promise 6", "KEPT becomes THE BODY: its CODE.");
        for (int code : new int[] {0, 1, 128, 255}) {
            CubeBodies x = of(code, 255 - code);
            due("keep", x.keep(), code);
            due("kept", x.told(1), code);
            due("code", x.told(0), code);
        }
    }

    private static void feed() {
        sentence("Promise 7", "A sign (0 .. 127) comes behind THE TEXT's: how many it has.");
        CubeBodies x = new CubeBodies();
        due("the least", x.feed(0), 1);
        due("the greatest", x.feed(127), 2);
        due("FAULT at the least", x.read(), -10);
        sentence("Promise 7", "BAD; FULL.");
        refused("feed", CubeBodies::feed, 0, 127, BAD);
        for (int sign = 0; sign < 128; sign++) {
            int given = sign;
            still(BRIMFUL, "a sign beyond 100", y -> y.feed(given), FULL);
        }
        for (int i = 1; i <= 99; i++) due("feed " + i, x.feed('f'), i);
        due("the hundredth", x.feed('f'), 100);
        due("one more", x.feed('f'), FULL);
        due("BAD first", x.feed(128), BAD);
        x.read();
        due("room again", x.feed('f'), 1);
    }

    private static void readIt() {
        sentence("Promise 8", "THE TEXT, which is empty then (by a FAULT, too), is a set-up");
        CubeBodies x = of(0b110);
        due("nothing to read", x.read(), -10);
        due("count", x.count(3), 0);
        due("read", read(x, "+0"), 1);
        due("count", x.count(3), 0);
        due("FAULT", read(x, "+1,2"), -12);
        due("count", x.count(3), 0);
        due("nothing left of it", read(x, "-0"), 1);
        due("code", x.told(0), 0b110);
        due("nothing left of that", x.read(), -10);
        sentence("Promise 8", "how many CLAUSES were done; -10 less the FAULT.");
        due("none, for all are refused", read(x, "+8"), 0);
        due("one", read(x, "k"), 1);
        due("twelve", read(x, "k;k;k;k;k;k;k;k;k;k;k;k"), 12);
        due("twelve, the last refused", read(x, "k;k;k;k;k;k;k;k;k;k;k;m48"), 11);
        due("FAULT 0", read(x, "x"), -10);
        due("a hundred signs, 11 clauses", read(x, HUNDRED), 11);
        due("code", x.told(0), 0b11110111);
        due("FAULT 99", read(x, HUNDRED.substring(0, 99) + "x"), -109);
        due("FAULT 100", read(x, HUNDRED.substring(0, 90) + "-01234567;"), -110);
        due("code", x.told(0), 0b11110111);
        due("kept", x.told(1), 0b110);
        due("count", x.count(3), 0);
    }

    // ---- what is told

    private static void told() {
        sentence("Promise 9", "12 WIDTH (-5). NONE.");
        refused("told", CubeBodies::told, 0, 12, NONE);
        due("the first", of(255).told(0), 255);
        due("the last", of(255).told(12), 1);
        due("the last, no CORNERS", of(0).told(12), -5);
        due("WIDTH of a flat one", of(15).told(12), 0);
        sentence("Promise 9", "10 DIMENSION and 1, 11 SIXFOLD");
        due("no CORNERS", of(0).told(10), 0);
        due("all", of(255).told(10), 4);
        due("no CORNERS", of(0).told(11), 0);
        due("all", of(255).told(11), 6);
        for (int what = 0; what <= 12; what++) {
            int given = what;
            asked("told " + what, x -> x.told(given));
        }
    }

    private static void carried() {
        sentence("Promise 10", "The CORNER to which a MOVE carries a CORNER. NONE: move, corner.");
        CubeBodies x = new CubeBodies();
        due("the first of both", x.carried(0, 0), 0);
        due("the first MOVE, the last CORNER", x.carried(0, 7), 7);
        due("the last MOVE, the first CORNER", x.carried(47, 0), 7);
        due("the last of both", x.carried(47, 7), 0);
        refused("move", (y, n) -> y.carried(n, 0), 0, 47, NONE);
        refused("corner", (y, n) -> y.carried(47, n), 0, 7, NONE);
        refused("both", (y, n) -> y.carried(n, n), 0, 47, NONE);
        asked("carried(47, 7)", y -> y.carried(47, 7));
    }

    private static void imaged() {
        sentence("Promise 11", "CODE of THE BODY's IMAGE by a MOVE. NONE.");
        due("the first", of(3).imaged(0), 3);
        due("the last", of(3).imaged(47), 128 + 8);
        due("of no CORNERS", of(0).imaged(47), 0);
        due("of all CORNERS", of(255).imaged(47), 255);
        refused("imaged", CubeBodies::imaged, 0, 47, NONE);
        asked("imaged(47)", x -> x.imaged(47));
    }

    private static void form() {
        sentence("Promise 12", "FORM of CLASS i; -5: there are not as many.");
        CubeBodies x = new CubeBodies();
        due("the first", x.form(0), 0);
        due("the last", x.form(21), 255);
        for (int beyond : new int[] {22, 23, 255, 256, 65536, HIGH - 1, HIGH}) {
            still("form " + beyond, y -> y.form(beyond), NOT_THERE);
        }
        sentence("Promise 12", "NONE: i below 0.");
        refused("form", CubeBodies::form, 0, HIGH, NONE);
        asked("form(21)", y -> y.form(21));
    }

    private static void classes() {
        sentence("Promise 13", "How many CLASSES have k CORNERS (k 0 .. 8). BAD.");
        due("none", new CubeBodies().classes(0), 1);
        due("all", new CubeBodies().classes(8), 1);
        refused("classes", CubeBodies::classes, 0, 8, BAD);
        asked("classes(8)", x -> x.classes(8));
    }

    // ---- weights

    private static void weighs() {
        sentence("Promise 14", "MOST (what 0), LEAST (1) by WEIGHTS, each and 100, CODE of those that weigh MOST (2).");
        CubeBodies x = of(255);
        due("the greatest MOST", x.weighs(3, 3, 3, 0), 109);
        due("its LEAST", x.weighs(3, 3, 3, 1), 100);
        due("those", x.weighs(3, 3, 3, 2), 128);
        due("MOST below all", x.weighs(-3, -3, -3, 0), 100);
        due("the least LEAST", x.weighs(-3, -3, -3, 1), 91);
        due("those", x.weighs(-3, -3, -3, 2), 1);
        due("the least MOST", of(128).weighs(-3, -3, -3, 0), 91);
        due("the greatest LEAST", of(128).weighs(3, 3, 3, 1), 109);
        sentence("Promise 14", "BAD: a, b, c (-3 .. 3 each, not all 0)");
        for (int what = 0; what < 4; what++) {
            int given = what;
            refused("a", (y, n) -> y.weighs(n, 1, 1, given), -3, 3, BAD);
            refused("b", (y, n) -> y.weighs(-1, n, 1, given), -3, 3, BAD);
            refused("c", (y, n) -> y.weighs(0, -1, n, given), -3, 3, BAD);
            still("all 0", y -> y.weighs(0, 0, 0, given), BAD);
        }
        // 1 << 30 four times is 0, and so are these three together
        still("sums that wrap round", y -> y.weighs(1 << 31, 1 << 30, 1 << 30, 0), BAD);
        due("one is not 0", x.weighs(1, 0, 0, 2), 170);
        due("one is not 0", x.weighs(0, -1, 0, 2), 51);
        due("one is not 0", x.weighs(0, 0, 1, 2), 240);
        sentence("Promise 14", "NONE: what; STATE: no CORNERS.");
        refused("what", (y, n) -> y.weighs(3, -3, 3, n), 0, 2, NONE);
        for (int what = 0; what < 3; what++) {
            int given = what;
            still(BARE, "no CORNERS", y -> y.weighs(1, 0, 0, given), STATE);
            still(FRESH, "no CORNERS", y -> y.weighs(0, 0, -3, given), STATE);
            asked("weighs", y -> y.weighs(-3, 2, 0, given));
        }
    }

    private static void face() {
        sentence("Promise 15", "CODE of FACE i; -5: there are not as many.");
        int[][] firstLastHowMany = {{255, 15, 240, 6}, {23, 7, 22, 4}, {126, 14, 112, 8}, {15, 0, 0, 0}, {0, 0, 0, 0},
            {3, 0, 0, 0}, {128, 0, 0, 0}};
        for (int[] row : firstLastHowMany) {
            CubeBodies x = of(row[0]);
            due("how many", x.told(8), row[3]);
            if (row[3] > 0) due("the first of " + row[0], x.face(0), row[1]);
            if (row[3] > 0) due("the last of " + row[0], x.face(row[3] - 1), row[2]);
            for (int beyond : new int[] {row[3], row[3] + 1, 255, 256, 65536, HIGH - 1, HIGH}) {
                due("face " + beyond + " of " + row[0], x.face(beyond), NOT_THERE);
            }
        }
        still("far on", x -> x.face(HIGH), NOT_THERE);
        sentence("Promise 15", "NONE: i below 0.");
        refused("face", CubeBodies::face, 0, HIGH, NONE);
        asked("face(0)", x -> x.face(0));
    }

    private static void edge() {
        sentence("Promise 16", "Whether two CORNERS are an EDGE (1, 0).");
        due("the ends of the numbers", of(129).edge(0, 7), 1);
        due("the other way round", of(129).edge(7, 0), 1);
        due("through the midst", of(255).edge(0, 7), 0);
        sentence("Promise 16", "NONE: either; -5: either is not in THE BODY, one twice.");
        refused("one", (x, n) -> x.edge(n, 0), 0, 7, NONE);
        refused("other", (x, n) -> x.edge(7, n), 0, 7, NONE);
        refused("one twice", (x, n) -> x.edge(n, n), 0, 7, NONE);
        for (int corner = 0; corner < 8; corner++) {
            int given = corner;
            still("one twice", x -> x.edge(given, given), NOT_THERE);
            still(BARE, "neither is", x -> x.edge(given, 7 - given), NOT_THERE);
        }
        due("one is not", of(2).edge(0, 1), NOT_THERE);
        due("other is not", of(2).edge(1, 0), NOT_THERE);
        asked("edge(1, 2)", x -> x.edge(1, 2));
    }

    // ---- points, floats

    private static void points() {
        sentence("Promise 17", "POINTS m. BAD: m; STATE: no CORNERS.");
        due("the least m", of(255).points(1), 8);
        due("the greatest m", of(255).points(3), 64);
        refused("points", CubeBodies::points, 1, 3, BAD);
        for (int m = 1; m <= 3; m++) {
            int given = m;
            still(BARE, "no CORNERS", x -> x.points(given), STATE);
            still(FRESH, "no CORNERS", x -> x.points(given), STATE);
            asked("points " + m, x -> x.points(given));
        }
    }

    private static void holds() {
        sentence("Promise 18", "Whether a place is IN m TIMES it (1, 0).");
        due("the least place", of(255).holds(1, 0, 0, 0), 1);
        due("the greatest place", of(255).holds(3, 3, 3, 3), 1);
        due("the greatest place, 2 times", of(255).holds(2, 3, 3, 3), 0);
        sentence("Promise 18", "BAD: m; x, y, z (0 .. 3 each); STATE: no CORNERS.");
        refused("m", (x, n) -> x.holds(n, 0, 0, 0), 1, 3, BAD);
        for (int m = 1; m <= 3; m += 2) {
            int given = m;
            refused("x", (x, n) -> x.holds(given, n, 0, 3), 0, 3, BAD);
            refused("y", (x, n) -> x.holds(given, 0, n, 3), 0, 3, BAD);
            refused("z", (x, n) -> x.holds(given, 3, 0, n), 0, 3, BAD);
            still(BARE, "no CORNERS", x -> x.holds(given, 0, 3, 3), STATE);
            still(FRESH, "no CORNERS", x -> x.holds(given, 3, 0, 0), STATE);
            asked("holds", x -> x.holds(given, 1, 1, 1));
        }
    }

    private static void floats() {
        sentence("Promise 19", "CENTRE's bits: of x (what 0), y (1), z (2), FAT's (3). NONE: what; STATE: no CORNERS.");
        due("the first", of(254).floats(0), Float.floatToIntBits(4.0f / 7.0f));
        due("the last", of(255).floats(3), Float.floatToIntBits(1.0f));
        refused("floats", CubeBodies::floats, 0, 3, NONE);
        for (int what = 0; what < 4; what++) {
            int given = what;
            still(BARE, "no CORNERS", x -> x.floats(given), STATE);
            still(FRESH, "no CORNERS", x -> x.floats(given), STATE);
            asked("floats " + what, x -> x.floats(given));
        }
    }

    private static void spread() {
        sentence("Promise 20", "SPREAD's bits. NO: no CORNERS.");
        due("of one", of(128).spread(), Double.doubleToLongBits(0.75));
        due("of all", of(255).spread(), 0);
        still(BARE, "no CORNERS", CubeBodies::spread, NO);
        still(FRESH, "no CORNERS", CubeBodies::spread, NO);
        asked("spread", CubeBodies::spread);
    }

    // ---- seen, odds

    private static void see() {
        sentence("Promise 21", "What is SEEN comes: how many there are (what -1: none then, 0, whatever the rest is).");
        CubeBodies x = new CubeBodies();
        for (int n : new int[] {0, 1, 99, 100, -1, LOW, HIGH}) {
            due("none, none before", x.see(-1, n), 0);
            for (int i = 1; i <= 4; i++) due("see", x.see(i - 1, 99), i);
            due("none, all before", x.see(-1, n), 0);
            due("count", x.count(0), 0);
            due("fits", x.fits(), 255);
        }
        sentence("Promise 21", "NONE: what (0 .. 3); BAD: n; FULL: 4.");
        refused("what", (y, n) -> y.see(n, 0), -1, 3, NONE);
        refused("what and n: NONE first", (y, n) -> y.see(n, 100), -1, 3, NONE);
        for (int what = 0; what < 4; what++) {
            int given = what;
            refused("n of " + what, (y, n) -> y.see(given, n), 0, 99, BAD);
            still(BRIMFUL, "a fifth of " + what, y -> y.see(given, 0), FULL);
            still(BRIMFUL, "a fifth of " + what, y -> y.see(given, 99), FULL);
        }
        due("the first, the least", x.see(0, 0), 1);
        due("the last, the greatest", x.see(3, 99), 2);
        due("the third", x.see(3, 0), 3);
        due("the fourth", x.see(0, 99), 4);
        due("a fifth", x.see(0, 99), FULL);
        due("emptied", x.see(-1, 0), 0);
        due("room again", x.see(0, 99), 1);
    }

    private static void fits() {
        sentence("Promise 22", "FITS (bits).");
        due("nothing seen", in(FRESH).fits(), 255);
        due("the four of all", in(BRIMFUL).fits(), 255);
        CubeBodies x = of(1);
        x.see(0, 0);
        due("the first alone", x.fits(), 1);
        x.code(128);
        due("the last alone", x.fits(), 128);
        x.see(0, 1);
        due("none, for two are not at once", x.fits(), 0);
        asked("fits", CubeBodies::fits);
    }

    private static void odds() {
        sentence("Promise 23", "ODDS; part 0 above, 1 below the line. NO: corner, part.");
        for (int corner = 0; corner < 8; corner += 7) {
            due("above", of(254).odds(corner, 0), 7);
            due("below", of(254).odds(corner, 1), 8);
        }
        refused("corner", (x, n) -> x.odds(n, 0), 0, 7, NO);
        refused("part", (x, n) -> x.odds(7, n), 0, 1, NO);
        refused("both", (x, n) -> x.odds(n, n), 0, 7, NO);
        asked("odds(7, 1)", x -> x.odds(7, 1));
    }

    private static void mean() {
        sentence("Promise 24", "MEAN; part likewise. NO: part.");
        due("above", of(255, 255).mean(0), 8);
        due("below", of(255, 255).mean(1), 1);
        refused("part", CubeBodies::mean, 0, 1, NO);
        asked("mean(1)", x -> x.mean(1));
    }

    // ---- events, books

    private static void event() {
        sentence("Promise 25", "A row comes to EVENTS: how many there are (what -1: none then, 0, whatever the rest is).");
        CubeBodies x = of(6);
        for (int n : new int[] {0, 1, 7, 8, 48, -1, LOW, HIGH}) {
            due("none, none before", x.event(-1, n), 0);
            for (int i = 1; i <= 8; i++) due("event", x.event(0, i - 1), i);
            due("after", x.after(0), 255 - 6);
            due("none, all before", x.event(-1, n), 0);
            due("count", x.count(1), 0);
            due("after", x.after(0), 6);
        }
        sentence("Promise 25", "NONE: what (0 .. 2), CORNER n, MOVE n; BAD: n isn't 0 (2); FULL: 8.");
        refused("what", (y, n) -> y.event(n, 0), -1, 2, NONE);
        refused("what and n: NONE first", (y, n) -> y.event(n, 1), -1, 2, NONE);
        refused("CORNER n", (y, n) -> y.event(0, n), 0, 7, NONE);
        refused("MOVE n", (y, n) -> y.event(1, n), 0, 47, NONE);
        refused("n isn't 0", (y, n) -> y.event(2, n), 0, 0, BAD);
        still(BRIMFUL, "a ninth, a CORNER", y -> y.event(0, 7), FULL);
        still(BRIMFUL, "a ninth, a MOVE", y -> y.event(1, 47), FULL);
        still(BRIMFUL, "a ninth, all others", y -> y.event(2, 0), FULL);
        due("the first CORNER", x.event(0, 0), 1);
        due("the last CORNER", x.event(0, 7), 2);
        due("the first MOVE", x.event(1, 0), 3);
        due("the last MOVE", x.event(1, 47), 4);
        due("all others", x.event(2, 0), 5);
        for (int i = 6; i <= 8; i++) due("event", x.event(1, 0), i);
        due("a ninth", x.event(1, 0), FULL);
        due("emptied", x.event(-1, 0), 0);
        due("room again", x.event(1, 8), 1);
    }

    private static void after() {
        sentence("Promise 26", "AFTER: what 0 CODE, 1 SIXFOLD, 2 the number of the CLASS. NONE.");
        due("the first", of(255).after(0), 255);
        due("the second", of(255).after(1), 6);
        due("the last", of(255).after(2), 21);
        refused("after", CubeBodies::after, 0, 2, NONE);
        for (int what = 0; what < 3; what++) {
            int given = what;
            asked("after " + what, x -> x.after(given));
        }
    }

    private static void book() {
        sentence("Promise 27", "A row comes to the BOOK: how many there are (corner -1: it is empty then, 0, whatever the"
                + " rest is).");
        CubeBodies x = new CubeBodies();
        for (int is : new int[] {0, 1, 2, -1, LOW, HIGH}) {
            due("empty, empty before", x.book(-1, is), 0);
            for (int i = 1; i <= 8; i++) due("book", x.book(8 - i, 1), i);
            due("looked", x.looked(), 0);
            due("empty, full before", x.book(-1, is), 0);
            due("count", x.count(2), 0);
            due("looked", x.looked(), NOT_THERE);
        }
        sentence("Promise 27", "NONE: corner; BAD: is (0, 1); FULL: 8.");
        refused("corner", (y, n) -> y.book(n, 0), -1, 7, NONE);
        refused("corner and is: NONE first", (y, n) -> y.book(n, 2), -1, 7, NONE);
        refused("is of the first", (y, n) -> y.book(0, n), 0, 1, BAD);
        refused("is of the last", (y, n) -> y.book(7, n), 0, 1, BAD);
        still(BRIMFUL, "a ninth", y -> y.book(0, 0), FULL);
        still(BRIMFUL, "a ninth", y -> y.book(7, 1), FULL);
        due("the first, not", x.book(0, 0), 1);
        due("the last, is", x.book(7, 1), 2);
        for (int i = 3; i <= 8; i++) due("book", x.book(7, 1), i);
        due("a ninth", x.book(7, 1), FULL);
        due("emptied", x.book(-1, 0), 0);
        due("room again", x.book(7, 1), 1);
    }

    private static void looked() {
        sentence("Promise 28", "LOOKED at; -5.");
        due("empty", in(FRESH).looked(), NOT_THERE);
        due("full, all so", in(BRIMFUL).looked(), NOT_THERE);
        CubeBodies x = in(BRIMFUL);
        x.corner(7, 0);
        due("the last of eight", x.looked(), 7);
        x.corner(0, 0);
        due("the first of eight", x.looked(), 0);
        asked("looked", CubeBodies::looked);
    }

    // ---- judging, the image, tapes

    private static void judge() {
        sentence("Promise 29", "JUDGED from place i of a TAPE on. NONE: tape; CAST: it is no row of booleans.");
        refused("tape", (x, n) -> x.judge(n, 0), 0, 5, NONE);
        refused("tape, below 0: NONE first", (x, n) -> x.judge(n, -1), 0, 5, NONE);
        for (int tape = 0; tape < 4; tape++) {
            int given = tape;
            for (int state : new int[] {SOME, BARE, BRIMFUL}) {
                still(state, "sort " + tape, x -> x.judge(given, 0), CAST);
                still(state, "sort " + tape + ", far on", x -> x.judge(given, 60), CAST);
                still(state, "sort " + tape + ", below 0", x -> x.judge(given, -1), CAST);
            }
        }
        CubeBodies x = new CubeBodies();
        due("the first TAPE", x.judge(0, 0), 100);
        due("the last TAPE", x.judge(5, 0), 100);
        for (int sort = 0; sort < 5; sort++) {
            x.tape(0, sort, 0);
            due("an empty row of sort " + sort, x.judge(0, 0), sort == 4 ? 100 : CAST);
        }
        asked("judge(4, 0)", y -> y.judge(4, 0));
    }

    private static void image() {
        sentence("Promise 30", "An image is kept by hand: CODE.");
        due("of no CORNERS", of(0).image(), 0);
        due("of all CORNERS", of(255).image(), 255);
        CubeBodies x = of(255);
        x.image();
        x.code(0);
        due("a second one", x.image(), 0);
        x.code(7);
        due("is the one that counts", x.undo(), 0);
    }

    private static void undo() {
        sentence("Promise 31", "All is as it was then: CODE. STATE: there is none.");
        still(FRESH, "there is none", CubeBodies::undo, STATE);
        CubeBodies x = in(BRIMFUL);
        x.code(0);
        x.keep();
        x.see(-1, 0);
        x.event(-1, 0);
        x.book(-1, 0);
        due("from empty to full", x.undo(), 255);
        int[] full = {4, 8, 8, 100};
        for (int what = 0; what < 4; what++) due("count " + what, x.count(what), full[what]);
        due("kept", x.told(1), 255);
        due("seen", x.fits(), 255);
        due("a fifth", x.see(0, 0), FULL);
        due("a ninth", x.event(0, 0), FULL);
        due("a ninth", x.book(0, 0), FULL);
        int after = in(BRIMFUL).after(0);
        x.see(-1, 0);
        x.event(-1, 0);
        x.book(-1, 0);
        for (int i = 0; i < 4; i++) x.see(3 - i, 99);
        for (int i = 0; i < 8; i++) x.event(2, 0);
        for (int i = 0; i < 8; i++) x.book(7 - i, 0);
        due("other rows seen", x.fits(), 0);
        due("other events", x.after(0), 255);
        due("another book", x.looked(), 0);
        due("from full to full", x.undo(), 255);
        due("seen", x.fits(), 255);
        due("after", x.after(0), after);
        due("looked", x.looked(), NOT_THERE);
        x = new CubeBodies();
        due("with nothing", x.image(), 0);
        for (int i = 0; i < 8; i++) {
            x.see(0, 99);
            x.event(0, 0);
            x.book(7, 1);
        }
        x.code(255);
        x.keep();
        due("from full to empty", x.undo(), 0);
        for (int what = 0; what < 4; what++) due("count " + what, x.count(what), 0);
        due("kept", x.told(1), 0);
        due("seen", x.fits(), 255);
        due("after", x.after(0), 0);
        due("looked", x.looked(), NOT_THERE);
        due("room again", x.see(0, 0) + x.event(0, 0) + x.book(0, 0), 3);
    }

    private static void count() {
        sentence("Promise 32", "How many: 0 SEEN, 1 EVENTS, 2 of the BOOK, 3 bytes of THE TEXT. BAD.");
        int[] full = {4, 8, 8, 100};
        for (int what = 0; what < 4; what++) {
            int given = what;
            due("of nothing", in(FRESH).count(what), 0);
            due("of all", in(BRIMFUL).count(what), full[what]);
            asked("count " + what, x -> x.count(given));
        }
        refused("count", CubeBodies::count, 0, 3, BAD);
    }

    private static void tape() {
        sentence("Promise 33", "A TAPE becomes a row of n (0 .. 60) of a sort, all 0, or holds nothing (sort -1: n does not"
                + " matter): 1.");
        for (int sort = 0; sort < 5; sort++) {
            for (int tape = 0; tape < 6; tape += 5) {
                CubeBodies x = in(BRIMFUL);
                due("of none", x.tape(tape, sort, 0), 1);
                due("no place", x.item(tape, 0, 1), PLACE);
                due("of one", x.tape(tape, sort, 1), 1);
                due("its place", x.item(tape, 0, 1), 1);
                due("no place", x.item(tape, 1, 1), PLACE);
                due("of 60", x.tape(tape, sort, 60), 1);
                for (int i = 0; i < 60; i++) due("all 0", x.peek(tape, i), 0);
                due("its last place", x.item(tape, 59, 1), 1);
                due("no place", x.item(tape, 60, 1), PLACE);
            }
        }
        for (int n : new int[] {0, 60, 61, -1, LOW, HIGH}) {
            CubeBodies x = in(BRIMFUL);
            due("nothing, n " + n, x.tape(5, -1, n), 1);
            due("nothing there", x.item(5, 0, 1), NOTHING);
            due("nothing to be peeked at", x.peek(5, 0), NO);
            due("nothing to be judged by", x.judge(5, 0), 100);
            due("nothing to be shifted", x.shift(5, 0, 5, 0, 0), NOTHING);
            due("nothing again", x.tape(5, -1, n), 1);
            due("the others stay", x.peek(4, 59), 1);
        }
        sentence("Promise 33", "NONE: tape; BAD: sort, n above 60; SIZE.");
        refused("tape", (x, n) -> x.tape(n, 0, 1), 0, 5, NONE);
        refused("tape, to nothing", (x, n) -> x.tape(n, -1, 0), 0, 5, NONE);
        refused("tape, sort and n: NONE first", (x, n) -> x.tape(n, 5, 61), 0, 5, NONE);
        refused("tape and size: NONE first", (x, n) -> x.tape(n, 0, -1), 0, 5, NONE);
        refused("sort", (x, n) -> x.tape(0, n, 1), -1, 4, BAD);
        refused("sort and size: BAD first", (x, n) -> x.tape(5, n, -1), -1, 4, BAD);
        for (int sort = 0; sort < 5; sort++) {
            int given = sort;
            for (int n : new int[] {61, 62, 255, 256, 316, 65536, HIGH - 1, HIGH}) {
                still("n " + n, x -> x.tape(given, given, n), BAD);
            }
            for (int n : new int[] {-1, -2, -60, -196, -256, -65536, LOW + 1, LOW + 60, LOW}) {
                still("n " + n, x -> x.tape(given, given, n), SIZE);
            }
        }
    }

    private static void item() {
        sentence("Promise 34", "Item i of a TAPE becomes v (its lowest bits, as many as an item has; booleans: whether v is"
                + " not 0): 1.");
        long[][] cuts = {
            {127, 127, 127, 127, 127, 1}, {128, -128, 128, 128, 128, 1}, {255, -1, 255, 255, 255, 1},
            {256, 0, 256, 256, 256, 1}, {-128, -128, -128, -128, -128, 1}, {-129, 127, -129, -129, -129, 1},
            {32767, -1, 32767, 32767, 32767, 1}, {32768, 0, -32768, 32768, 32768, 1},
            {65535, -1, -1, 65535, 65535, 1}, {65536, 0, 0, 65536, 65536, 1}, {-32769, -1, 32767, -32769, -32769, 1},
            {HIGH, -1, -1, HIGH, HIGH, 1}, {1L + HIGH, 0, 0, LOW, 1L + HIGH, 1}, {LOW, 0, 0, LOW, LOW, 1},
            {LOW - 1L, -1, -1, HIGH, LOW - 1L, 1}, {1L << 32, 0, 0, 0, 1L << 32, 1}, {-1, -1, -1, -1, -1, 1},
            {Long.MAX_VALUE, -1, -1, -1, Long.MAX_VALUE, 1}, {Long.MIN_VALUE, 0, 0, 0, Long.MIN_VALUE, 1},
            {0, 0, 0, 0, 0, 0}, {1, 1, 1, 1, 1, 1}, {2, 2, 2, 2, 2, 1},
        };
        CubeBodies x = in(SOME);
        for (long[] row : cuts) {
            for (int sort = 0; sort < 5; sort++) {
                due("item", x.item(sort, 4, row[0]), 1);
                due(row[0] + " in sort " + sort, x.peek(sort, 4), row[1 + sort]);
            }
        }
        for (int sort = 0; sort < 5; sort++) due("another one stays", x.peek(sort, 2), sort == 4 ? 1 : 2);
        sentence("Promise 34", "NONE; NOTHING; PLACE.");
        refused("tape", (y, n) -> y.item(n, 0, 1), 0, 5, NONE);
        refused("tape and place: NONE first", (y, n) -> y.item(n, -1, 1), 0, 5, NONE);
        for (int tape = 0; tape < 6; tape++) {
            int given = tape;
            still(FRESH, "nothing", y -> y.item(given, 0, 1), NOTHING);
            refusedIn(FRESH, "nothing and place: NOTHING first", (y, n) -> y.item(given, n, 1), 0, 59, NOTHING);
            refusedIn(BRIMFUL, "place", (y, n) -> y.item(given, n, 1), 0, 59, PLACE);
            if (tape < 5) refusedIn(SOME, "place", (y, n) -> y.item(given, n, 1), 0, 4, PLACE);
        }
        for (int sort = 0; sort < 5; sort++) {
            x.tape(0, sort, 0);
            due("an empty row", x.item(0, 0, 1), PLACE);
            due("an empty row, below", x.item(0, -1, 1), PLACE);
        }
    }

    private static void peek() {
        sentence("Promise 35", "Item i of a TAPE. NO: no such TAPE, nothing there, no such place.");
        for (int tape = 0; tape < 6; tape += 5) {
            due("the first place", in(BRIMFUL).peek(tape, 0), 1);
            due("the last place", in(BRIMFUL).peek(tape, 59), 1);
        }
        refused("tape", (x, n) -> x.peek(n, 0), 0, 5, NO);
        for (int tape = 0; tape < 6; tape++) {
            int given = tape;
            refused("place", (x, n) -> x.peek(given, n), 0, 59, NO);
            still(FRESH, "nothing there", x -> x.peek(given, 0), NO);
        }
        still(SOME, "nothing there", x -> x.peek(5, 0), NO);
        still(SOME, "beyond five", x -> x.peek(3, 5), NO);
        CubeBodies x = new CubeBodies();
        for (int sort = 0; sort < 5; sort++) {
            x.tape(0, sort, 0);
            due("an empty row", x.peek(0, 0), NO);
        }
        asked("peek(3, 4)", y -> y.peek(3, 4));
    }

    private static void shift() {
        sentence("Promise 36", "n items of a TAPE from i on come to another one (or the same) from j on, as they all were"
                + " before: n.");
        CubeBodies x = new CubeBodies();
        x.tape(0, 3, 60);
        x.tape(5, 3, 60);
        x.tape(1, 3, 0);
        for (int i = 0; i < 60; i++) x.item(0, i, i + 1);
        due("all of it", x.shift(0, 0, 5, 0, 60), 60);
        for (int i = 0; i < 60; i++) due("item " + i, x.peek(5, i), i + 1);
        due("the last one to the first", x.shift(5, 59, 0, 0, 1), 1);
        due("is there", x.peek(0, 0), 60);
        due("the first one to the last", x.shift(5, 0, 0, 59, 1), 1);
        due("is there", x.peek(0, 59), 1);
        due("on by one, in the same", x.shift(5, 0, 5, 1, 59), 59);
        for (int i = 1; i < 60; i++) due("item " + i, x.peek(5, i), i);
        due("back by one, in the same", x.shift(5, 1, 5, 0, 59), 59);
        for (int i = 0; i < 59; i++) due("item " + i, x.peek(5, i), i + 1);
        due("to where it is", x.shift(5, 0, 5, 0, 60), 60);
        due("is there", x.peek(5, 58), 59);
        due("none, at both ends", x.shift(0, 60, 5, 60, 0), 0);
        due("none, of empty rows", x.shift(1, 0, 1, 0, 0), 0);
        due("none, to an empty row", x.shift(0, 60, 1, 0, 0), 0);
        due("none, from an empty row", x.shift(1, 0, 0, 60, 0), 0);
        due("one from an empty row", x.shift(1, 0, 0, 0, 1), PLACE);
        due("one to an empty row", x.shift(0, 0, 1, 0, 1), PLACE);
        due("none, beyond an empty row", x.shift(1, 1, 0, 0, 0), PLACE);
        shiftRefused();
    }

    private static void shiftRefused() {
        sentence("Promise 36", "NONE: tapes; NOTHING; CAST: of unlike sorts");
        refused("tape", (x, n) -> x.shift(n, 0, 0, 0, 1), 0, 5, NONE);
        refused("other", (x, n) -> x.shift(0, 0, n, 0, 1), 0, 5, NONE);
        refused("tape, to nothing: NONE first", (x, n) -> x.shift(n, 0, 5, 0, 1), 0, 5, NONE);
        refused("other, from nothing, no place: NONE first", (x, n) -> x.shift(5, -1, n, -1, -1), 0, 5, NONE);
        still(SOME, "from nothing", x -> x.shift(5, 0, 0, 0, 1), NOTHING);
        still(SOME, "to nothing", x -> x.shift(0, 0, 5, 0, 1), NOTHING);
        still(SOME, "nothing, twice", x -> x.shift(5, 0, 5, 0, 0), NOTHING);
        still(SOME, "nothing and place: NOTHING first", x -> x.shift(0, -1, 5, 6, LOW), NOTHING);
        for (int tape = 0; tape < 5; tape++) {
            for (int other = 0; other < 5; other++) {
                if (tape == other) continue;
                int from = tape;
                int to = other;
                still(SOME, "sorts " + from + " and " + to, x -> x.shift(from, 0, to, 0, 1), CAST);
                still(SOME, "CAST ahead of PLACE", x -> x.shift(from, -1, to, 6, HIGH), CAST);
                still(SOME, "CAST of none", x -> x.shift(from, 0, to, 0, 0), CAST);
            }
        }
        sentence("Promise 36", "PLACE: n, i or j is below 0, or beyond either's end.");
        int[][] places = {{-1, 0, 1}, {0, -1, 1}, {0, 0, -1}, {-1, 0, 0}, {0, -1, 0}, {-1, -1, 2}, {1, 1, -1},
            {60, 0, 1}, {0, 60, 1}, {1, 0, 60}, {0, 1, 60}, {0, 0, 61}, {61, 0, 0}, {0, 61, 0}, {59, 0, 2}, {0, 59, 2},
            {HIGH, 0, 1}, {0, HIGH, 1}, {1, 0, HIGH}, {0, 1, HIGH}, {0, 0, HIGH}, {HIGH, 0, 0}, {0, HIGH, 0},
            {HIGH, HIGH, HIGH}, {HIGH, 0, 2}, {0, HIGH, 2}, {HIGH - 59, 0, 60}, {0, HIGH - 59, 60},
            {LOW, 0, 0}, {0, LOW, 0}, {0, 0, LOW}, {LOW, LOW, LOW}, {LOW, 0, LOW}, {0, LOW, LOW}, {LOW, 0, HIGH},
            {1 << 30, 0, 1 << 30}, {60, 60, -60}, {256, 0, 1}, {0, 256, 1}, {0, 0, 256}};
        for (int[] at : places) {
            String name = "shift " + at[0] + ", " + at[1] + ", " + at[2];
            still(BRIMFUL, name, x -> x.shift(0, at[0], 5, at[1], at[2]), PLACE);
            still(BRIMFUL, name + " in the same", x -> x.shift(3, at[0], 3, at[1], at[2]), PLACE);
        }
        still(SOME, "all of five, and one", x -> x.shift(3, 0, 3, 0, 6), PLACE);
        still(SOME, "all of five, from the second on", x -> x.shift(3, 1, 3, 0, 5), PLACE);
        still(SOME, "all of five, to the second", x -> x.shift(3, 0, 3, 1, 5), PLACE);
        due("all of five", in(SOME).shift(3, 0, 3, 0, 5), 5);
        CubeBodies x = new CubeBodies();
        x.tape(0, 3, 60);
        x.tape(1, 3, 2);
        due("beyond the other's end alone", x.shift(0, 0, 1, 0, 3), PLACE);
        due("beyond its own end alone", x.shift(1, 0, 0, 0, 3), PLACE);
        due("up to the other's end", x.shift(0, 58, 1, 0, 2), 2);
        due("from its own end", x.shift(1, 0, 0, 58, 2), 2);
    }

    public static void main(String[] args) {
        newObject();
        corner();
        code();
        move();
        becomes();
        keep();
        feed();
        readIt();
        told();
        carried();
        imaged();
        form();
        classes();
        weighs();
        face();
        edge();
        points();
        holds();
        floats();
        spread();
        see();
        fits();
        odds();
        mean();
        event();
        after();
        book();
        looked();
        judge();
        image();
        undo();
        count();
        tape();
        item();
        peek();
        shift();
        end();
    }
}

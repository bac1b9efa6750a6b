/** For each promise of the document, by its number: ordinary calls, the edges it names, wrong numbers. */
public final class PromiseTest {
    private static final int NONE = -1, BAD = -2, STATE = -3, FULL = -4, NOT_THERE = -5;
    private static final int NOTHING = -11, CAST = -12, PLACE = -13, SIZE = -14;
    private static final long NO = Long.MIN_VALUE;
    private static final int LOW = Integer.MIN_VALUE, HIGH = Integer.MAX_VALUE;

    private static int wrong = 0;
    private static int promise = 0;

    private static void due(String call, long got, long want) {
        if (got != want) {
            wrong++;
            System.out.println("promise " + promise + ": " + call + " answered " + got + ", due is " + want);
        }
    }

    private static CubeBodies of(int code) {
        CubeBodies x = new CubeBodies();
        x.code(code);
        return x;
    }

    private static CubeBodies of(int code, int kept) {
        CubeBodies x = of(kept);
        x.keep();
        x.code(code);
        return x;
    }

    private static int read(CubeBodies x, String text) {
        for (int i = 0; i < text.length(); i++) {
            due("feed of " + text, x.feed(text.charAt(i)), i + 1);
        }
        return x.read();
    }

    private static void newObject() {
        promise = 1;
        CubeBodies x = new CubeBodies();
        due("told(0)", x.told(0), 0);
        due("told(1)", x.told(1), 0);
        due("told(2)", x.told(2), 0);
        for (int what = 0; what < 4; what++) due("count " + what, x.count(what), 0);
        for (int tape = 0; tape < 6; tape++) due("item " + tape, x.item(tape, 0, 1), NOTHING);
        due("undo", x.undo(), STATE);
    }

    private static void corner() {
        promise = 2;
        CubeBodies x = new CubeBodies();
        due("corner(3, 1)", x.corner(3, 1), 0);
        due("corner(3, 1) again", x.corner(3, 1), 1);
        due("corner(7, 1)", x.corner(7, 1), 0);
        due("corner(0, 0)", x.corner(0, 0), 0);
        due("code", x.told(0), 8 + 128);
        due("corner(3, 0)", x.corner(3, 0), 1);
        due("code", x.told(0), 128);
        for (int bad : new int[] {-1, 8, 32, LOW, HIGH}) due("corner " + bad, x.corner(bad, 1), NONE);
        for (int bad : new int[] {-1, 2, LOW, HIGH}) due("is " + bad, x.corner(7, bad), BAD);
        due("both wrong", x.corner(8, 2), NONE);
        due("code", x.told(0), 128);
    }

    private static void code() {
        promise = 3;
        CubeBodies x = new CubeBodies();
        due("code(255)", x.code(255), 0);
        due("code(5)", x.code(5), 255);
        for (int bad : new int[] {-1, 256, LOW, HIGH}) due("code " + bad, x.code(bad), BAD);
        due("code", x.told(0), 5);
    }

    private static void move() {
        promise = 4;
        CubeBodies x = of(2 + 8);
        // y z x, then x changed: 1, 0, 0 goes to 1, 0, 1 and 1, 1, 0 goes to 0, 0, 1
        due("move(25)", x.move(25), 32 + 16);
        due("code", x.told(0), 48);
        due("move(0)", x.move(0), 48);
        for (int bad : new int[] {-1, 48, LOW, HIGH}) due("move " + bad, x.move(bad), NONE);
        due("code", x.told(0), 48);
    }

    private static void becomes() {
        promise = 5;
        due("form", of(129).becomes(0), 24);
        due("others", of(129).becomes(1), 126);
        due("together", of(0b1100, 0b1010).becomes(2), 0b1110);
        due("what both have", of(0b1100, 0b1010).becomes(3), 0b1000);
        CubeBodies x = of(0b1100, 0b1010);
        for (int bad : new int[] {-1, 4, LOW, HIGH}) due("becomes " + bad, x.becomes(bad), NONE);
        due("code", x.told(0), 0b1100);
        x.becomes(2);
        due("code", x.told(0), 0b1110);
        due("kept", x.told(1), 0b1010);
    }

    private static void keep() {
        promise = 6;
        CubeBodies x = of(77);
        due("keep", x.keep(), 77);
        x.code(3);
        due("kept", x.told(1), 77);
        due("keep", x.keep(), 3);
        due("kept", x.told(1), 3);
    }

    private static void feed() {
        promise = 7;
        CubeBodies x = new CubeBodies();
        for (int bad : new int[] {-1, 128, LOW, HIGH}) due("feed " + bad, x.feed(bad), BAD);
        due("feed(0)", x.feed(0), 1);
        for (int i = 2; i <= 100; i++) due("feed " + i, x.feed(127), i);
        due("feed beyond", x.feed(1), FULL);
        due("feed wrong beyond", x.feed(128), BAD);
        due("count", x.count(3), 100);
        due("read", x.read(), -10);
        due("feed then", x.feed(1), 1);
    }

    private static void read() {
        promise = 8;
        CubeBodies x = new CubeBodies();
        due("corners", read(x, "+0123;-1"), 2);
        due("code", x.told(0), 0b1101);
        due("keep, others", read(x, "k;o"), 2);
        due("code", x.told(0), 0b11110010);
        due("kept", x.told(1), 0b1101);
        due("together", read(x, "-4567;u"), 2);
        due("code", x.told(0), 0b1111);
        due("both", read(x, "i"), 1);
        due("code", x.told(0), 0b1101);
        due("form", read(x, "f"), 1);
        due("code", x.told(0), 7);
        due("moves", read(x, "m7;m07;m47"), 3);
        due("code", x.told(0), 128 + 8 + 32);
        due("one CORNER more often", read(of(0), "+00000000"), 1);

        x = of(6);
        due("all refused", read(x, "+8;-9;m48;m99;+1239"), 0);
        due("code", x.told(0), 6);
        due("one refused between", read(x, "+0;+18;+3"), 2);
        due("code", x.told(0), 15);

        x = of(6);
        String[] faults = {"", "x", "+", "-", "m", "+;", "f;", "f1", "m123", "+012345670", "-;", ";", " f", "f ",
            "f; o", "+0,1", "ff", "m4+", "F", "+1;;", "/", ":", "+/", "+:", "f;x", "f;m", "k;+1;u0"};
        int[] places = {0, 0, 1, 1, 1, 1, 2, 1, 3, 9, 1, 0, 0, 1, 2, 2, 1, 2, 0, 3, 0, 0, 1, 1, 2, 3, 6};
        for (int i = 0; i < faults.length; i++) {
            due("read of " + faults[i], read(x, faults[i]), -10 - places[i]);
            due("text then", x.count(3), 0);
            due("code", x.told(0), 6);
        }

        due("twelve clauses", read(of(1), "f;f;f;f;f;f;f;f;f;f;f;f"), 12);
        due("a sign behind the twelfth", read(of(1), "f;f;f;f;f;f;f;f;f;f;f;f;"), -10 - 23);
        due("a thirteenth", read(of(1), "f;f;f;f;f;f;f;f;f;f;f;f;f"), -10 - 23);
        String hundred = "+01234567;-01234567;+01234567;-01234567;+01234567;-01234567;+01234567;-01234567;+01234567;-01234567";
        due("the longest", read(of(1), hundred.substring(0, 99)), 10);
        due("the end of the longest", read(of(1), hundred.substring(0, 99) + ";"), -110);
    }

    private static void told() {
        promise = 9;
        int[][] all = {
            {0, 0, 0, 0, 0, 1, 48, 0, 0, 0, 0, 0, -5},
            {128, 0, 1, 1, 1, 8, 6, 1, 0, 0, 1, 0, 0},
            {129, 0, 2, 24, 8, 4, 12, 2, 0, 1, 2, 0, 0},
            {7, 0, 3, 7, 4, 24, 2, 3, 0, 3, 3, 0, 0},
            {15, 0, 4, 15, 5, 6, 8, 4, 0, 4, 3, 0, 0},
            {105, 0, 4, 105, 16, 2, 24, 4, 4, 6, 4, 2, 1},
            {126, 0, 6, 126, 19, 4, 12, 6, 8, 12, 4, 4, 1},
            {255, 0, 8, 255, 21, 1, 48, 8, 6, 12, 4, 6, 1},
        };
        for (int[] row : all) {
            CubeBodies x = of(row[0]);
            for (int what = 0; what < row.length; what++) due("told " + what + " of " + row[0], x.told(what), row[what]);
        }
        int[][] dimensions = {{0, 0}, {32, 1}, {96, 2}, {11, 3}, {60, 3}, {102, 3}, {153, 3}, {240, 3}, {27, 4},
            {30, 4}, {105, 4}, {150, 4}, {232, 4}, {143, 4}};
        for (int[] row : dimensions) due("dimension and 1 of " + row[0], of(row[0]).told(10), row[1]);
        due("far", of(0b11, 0b10000001).told(7), 2);
        due("far of an image", of(0b11, 0b11000000).told(7), 0);
        for (int bad : new int[] {-1, 13, LOW, HIGH}) due("told " + bad, of(1).told(bad), NONE);
    }

    private static void carried() {
        promise = 10;
        CubeBodies x = new CubeBodies();
        // where the CORNER with x alone goes, for each order, without changes
        int[] xGoes = {1, 1, 2, 4, 2, 4};
        int[] yGoes = {2, 4, 1, 1, 4, 2};
        for (int order = 0; order < 6; order++) {
            due("x by order " + order, x.carried(8 * order, 1), xGoes[order]);
            due("y by order " + order, x.carried(8 * order, 2), yGoes[order]);
            for (int changes = 0; changes < 8; changes++) {
                due("changed", x.carried(8 * order + changes, 0), changes);
                due("changed, all", x.carried(8 * order + changes, 7), 7 - changes);
            }
        }
        for (int bad : new int[] {-1, 48, LOW, HIGH}) due("move " + bad, x.carried(bad, 0), NONE);
        for (int bad : new int[] {-1, 8, LOW, HIGH}) due("corner " + bad, x.carried(0, bad), NONE);
    }

    private static void imaged() {
        promise = 11;
        CubeBodies x = of(2 + 8);
        due("imaged(25)", x.imaged(25), 48);
        due("imaged(0)", x.imaged(0), 10);
        due("code", x.told(0), 10);
        for (int bad : new int[] {-1, 48, LOW, HIGH}) due("imaged " + bad, x.imaged(bad), NONE);
    }

    private static void forms() {
        promise = 12;
        CubeBodies x = new CubeBodies();
        int classes = 0;
        for (int code = 0; code < 256; code++) {
            x = of(code);
            boolean least = true;
            for (int move = 0; move < 48; move++) least &= x.imaged(move) >= code;
            if (least) due("form " + classes, x.form(classes++), code);
        }
        due("how many", classes, 22);
        due("form(22)", x.form(22), NOT_THERE);
        due("form far on", x.form(HIGH), NOT_THERE);
        due("form(-1)", x.form(-1), NONE);
        due("form far below", x.form(LOW), NONE);
    }

    private static void classes() {
        promise = 13;
        int[] how = {1, 1, 3, 3, 6, 3, 3, 1, 1};
        for (int k = 0; k < 9; k++) due("classes " + k, new CubeBodies().classes(k), how[k]);
        for (int bad : new int[] {-1, 9, LOW, HIGH}) due("classes " + bad, new CubeBodies().classes(bad), BAD);
    }

    private static void weighs() {
        promise = 14;
        CubeBodies x = of(0b01101001);
        due("most", x.weighs(3, -2, 1, 0), 100 + 4);
        due("least", x.weighs(3, -2, 1, 1), 100 - 1);
        due("which", x.weighs(3, -2, 1, 2), 32);
        due("which", x.weighs(-1, 0, 0, 2), 1 + 64);
        due("most", x.weighs(-3, -3, -3, 0), 100);
        due("least", x.weighs(-3, -3, -3, 1), 94);
        due("most of one", of(128).weighs(-3, -3, -3, 0), 91);
        due("least of one", of(128).weighs(3, 3, 3, 1), 109);
        for (int bad : new int[] {-4, 4, LOW, HIGH}) {
            due("a " + bad, x.weighs(bad, 0, 0, 0), BAD);
            due("b " + bad, x.weighs(0, bad, 0, 0), BAD);
            due("c " + bad, x.weighs(0, 0, bad, 0), BAD);
        }
        due("all 0", x.weighs(0, 0, 0, 0), BAD);
        for (int bad : new int[] {-1, 3, LOW, HIGH}) due("what " + bad, x.weighs(1, 0, 0, bad), NONE);
        due("no corners", of(0).weighs(1, 0, 0, 2), STATE);
        due("what ahead of no corners", of(0).weighs(1, 0, 0, 3), NONE);
        due("weights ahead of all", of(0).weighs(0, 0, 0, 3), BAD);
    }

    private static void face() {
        promise = 15;
        int[][] all = {{255, 15, 51, 85, 170, 204, 240}, {23, 7, 19, 21, 22}, {15}, {7}, {0},
            {31, 15, 19, 21, 26, 28}};
        for (int[] row : all) {
            CubeBodies x = of(row[0]);
            for (int i = 1; i < row.length; i++) due("face " + (i - 1) + " of " + row[0], x.face(i - 1), row[i]);
            due("face beyond of " + row[0], x.face(row.length - 1), NOT_THERE);
            due("face far on", x.face(HIGH), NOT_THERE);
            due("face(-1)", x.face(-1), NONE);
            due("face far below", x.face(LOW), NONE);
        }
    }

    private static void edge() {
        promise = 16;
        CubeBodies x = of(255);
        for (int one = 0; one < 8; one++) {
            for (int other = 0; other < 8; other++) {
                int apart = Integer.bitCount(one ^ other);
                due("edge " + one + " " + other, x.edge(one, other), apart == 0 ? NOT_THERE : apart == 1 ? 1 : 0);
            }
        }
        due("without others", of(129).edge(7, 0), 1);
        due("a diagonal that is bare", of(23).edge(1, 2), 1);
        due("a diagonal with both sides", of(15).edge(1, 2), 0);
        due("one not in it", of(14).edge(0, 1), NOT_THERE);
        due("other not in it", of(14).edge(1, 0), NOT_THERE);
        due("one twice", of(14).edge(1, 1), NOT_THERE);
        due("neither, twice", of(14).edge(0, 0), NOT_THERE);
        for (int bad : new int[] {-1, 8, 33, LOW, HIGH}) {
            due("one " + bad, x.edge(bad, 0), NONE);
            due("other " + bad, x.edge(0, bad), NONE);
            due("NONE goes ahead", of(0).edge(0, bad), NONE);
        }
    }

    private static void points() {
        promise = 17;
        int[][] all = {{255, 8, 27, 64}, {105, 4, 11, 24}, {23, 4, 10, 20}, {15, 4, 9, 16}, {129, 2, 3, 4},
            {128, 1, 1, 1}, {9, 2, 3, 4}};
        for (int[] row : all) {
            for (int m = 1; m < 4; m++) due("points " + m + " of " + row[0], of(row[0]).points(m), row[m]);
        }
        for (int bad : new int[] {0, 4, -1, LOW, HIGH}) {
            due("points " + bad, of(1).points(bad), BAD);
            due("points ahead of no corners " + bad, of(0).points(bad), BAD);
        }
        due("no corners", of(0).points(1), STATE);
    }

    private static void holds() {
        promise = 18;
        CubeBodies x = of(105);
        due("in the middle of 2 times", x.holds(2, 1, 1, 1), 1);
        due("not a corner", x.holds(1, 1, 1, 1), 0);
        due("its corner", x.holds(1, 1, 1, 0), 1);
        due("its corner, 3 times", x.holds(3, 3, 0, 3), 1);
        due("none of it", x.holds(3, 3, 0, 0), 0);
        due("one corner, 3 times", of(128).holds(3, 3, 3, 3), 1);
        due("one corner, 2 times", of(128).holds(3, 2, 2, 2), 0);
        for (int bad : new int[] {0, 4, LOW, HIGH}) due("m " + bad, x.holds(bad, 0, 0, 0), BAD);
        for (int bad : new int[] {-1, 4, LOW, HIGH}) {
            due("x " + bad, x.holds(1, bad, 0, 0), BAD);
            due("y " + bad, x.holds(1, 0, bad, 0), BAD);
            due("z " + bad, x.holds(1, 0, 0, bad), BAD);
            due("ahead of no corners " + bad, of(0).holds(1, 0, 0, bad), BAD);
        }
        due("no corners", of(0).holds(1, 0, 0, 0), STATE);
    }

    private static void floats() {
        promise = 19;
        CubeBodies x = of(0b10001010);
        due("x", x.floats(0), Float.floatToIntBits(3.0f / 3.0f));
        due("y", x.floats(1), Float.floatToIntBits(2.0f / 3.0f));
        due("z", x.floats(2), Float.floatToIntBits(1.0f / 3.0f));
        due("flat", x.floats(3), 0);
        due("fat", of(126).floats(3), Float.floatToIntBits(4.0f / 6.0f / 1.0f));
        due("0", of(1).floats(0), 0);
        for (int bad : new int[] {-1, 4, LOW, HIGH}) {
            due("floats " + bad, x.floats(bad), NONE);
            due("ahead of no corners " + bad, of(0).floats(bad), NONE);
        }
        for (int what = 0; what < 4; what++) due("no corners " + what, of(0).floats(what), STATE);
    }

    private static void spread() {
        promise = 20;
        due("one", of(1).spread(), Double.doubleToLongBits(0.75));
        due("all", of(255).spread(), 0L);
        double third = (double) (1.0f / 3.0f) - 0.5;
        double thirds = (double) (2.0f / 3.0f) - 0.5;
        due("three", of(0b10001010).spread(), Double.doubleToLongBits(0.25 + thirds * thirds + third * third));
        due("none", of(0).spread(), NO);
    }

    private static void see() {
        promise = 21;
        CubeBodies x = new CubeBodies();
        for (int bad : new int[] {-2, 4, LOW, HIGH}) due("what " + bad, x.see(bad, 0), NONE);
        for (int bad : new int[] {-1, 100, LOW, HIGH}) due("n " + bad, x.see(0, bad), BAD);
        due("both", x.see(4, 100), NONE);
        due("none yet", x.count(0), 0);
        for (int i = 0; i < 4; i++) due("see", x.see(i, i == 0 ? 0 : 99), i + 1);
        due("a fifth", x.see(0, 0), FULL);
        due("a fifth of no sort", x.see(4, 0), NONE);
        due("a fifth, too much", x.see(0, 100), BAD);
        due("count", x.count(0), 4);
        due("none then", x.see(-1, HIGH), 0);
        due("count", x.count(0), 0);
        due("none then, again", x.see(-1, -7), 0);
    }

    private static void fits() {
        promise = 22;
        CubeBodies x = of(0b1011);
        due("nothing seen", x.fits(), 255);
        x.see(0, 4);
        due("one more", x.fits(), 0b11110100);
        x.see(2, 0);
        due("and no faces", x.fits(), 0b00000100);
        x.see(-1, 0);
        x.see(0, 2);
        due("one less", x.fits(), 0b1011);
        x.see(3, 3);
        due("and the two across", x.fits(), 0b0010);
        x.see(-1, 0);
        x.see(1, 1);
        due("volume", x.fits(), 0b11110000);
        due("code", x.told(0), 0b1011);
        x = of(4);
        x.see(0, 0);
        due("none left", x.fits(), 4);
    }

    private static void odds() {
        promise = 23;
        int[][] all = {{0, 0, 1}, {1, 1, 8}, {3, 1, 4}, {7, 3, 8}, {15, 1, 2}, {127, 7, 8}, {255, 1, 1}};
        for (int[] row : all) {
            for (int corner = 0; corner < 8; corner++) {
                due("odds of " + row[0], of(row[0]).odds(corner, 0), row[1]);
                due("odds of " + row[0], of(row[0]).odds(corner, 1), row[2]);
            }
        }
        for (int bad : new int[] {-1, 8, LOW, HIGH}) due("corner " + bad, of(1).odds(bad, 0), NO);
        for (int bad : new int[] {-1, 2, LOW, HIGH}) due("part " + bad, of(1).odds(0, bad), NO);
    }

    private static void mean() {
        promise = 24;
        // as each CORNER is as likely to go to each: the one's CORNERS times the other's, by 8
        int[][] all = {{0, 7, 0, 1}, {7, 0, 0, 1}, {1, 128, 1, 8}, {3, 7, 3, 4}, {15, 240, 2, 1}, {31, 127, 35, 8}};
        for (int[] row : all) {
            due("mean of " + row[0], of(row[0], row[1]).mean(0), row[2]);
            due("mean of " + row[0], of(row[0], row[1]).mean(1), row[3]);
        }
        for (int bad : new int[] {-1, 2, LOW, HIGH}) due("part " + bad, of(1).mean(bad), NO);
    }

    private static void event() {
        promise = 25;
        CubeBodies x = of(1);
        for (int bad : new int[] {-2, 3, LOW, HIGH}) due("what " + bad, x.event(bad, 0), NONE);
        for (int bad : new int[] {-1, 8, LOW, HIGH}) due("corner " + bad, x.event(0, bad), NONE);
        for (int bad : new int[] {-1, 48, LOW, HIGH}) due("move " + bad, x.event(1, bad), NONE);
        for (int bad : new int[] {-1, 1, LOW, HIGH}) due("n " + bad, x.event(2, bad), BAD);
        due("none yet", x.count(1), 0);
        due("corner", x.event(0, 7), 1);
        due("move", x.event(1, 47), 2);
        due("others", x.event(2, 0), 3);
        for (int i = 4; i <= 8; i++) due("event " + i, x.event(0, 0), i);
        due("a ninth", x.event(0, 0), FULL);
        due("a ninth, no corner", x.event(0, 8), NONE);
        due("a ninth, no move", x.event(1, 48), NONE);
        due("a ninth, not 0", x.event(2, 1), BAD);
        due("code", x.told(0), 1);
        due("none then", x.event(-1, HIGH), 0);
        due("count", x.count(1), 0);
    }

    private static void after() {
        promise = 26;
        CubeBodies x = of(0b111);
        due("nothing happens", x.after(0), 7);
        x.event(0, 4);
        due("code", x.after(0), 23);
        due("sixfold", x.after(1), 1);
        due("class", x.after(2), 7);
        x.event(0, 0);
        due("code", x.after(0), 22);
        due("sixfold", x.after(1), 0);
        due("class", x.after(2), 6);
        x.event(1, 7);
        due("code", x.after(0), 0b01101000);
        x.event(2, 0);
        due("code", x.after(0), 0b10010111);
        for (int bad : new int[] {-1, 3, LOW, HIGH}) due("after " + bad, x.after(bad), NONE);
        due("code", x.told(0), 7);
        x.code(0);
        due("from what is now", x.after(0), 255 - 128 - 8);
    }

    private static void book() {
        promise = 27;
        CubeBodies x = new CubeBodies();
        for (int bad : new int[] {-2, 8, LOW, HIGH}) due("corner " + bad, x.book(bad, 0), NONE);
        for (int bad : new int[] {-1, 2, LOW, HIGH}) due("is " + bad, x.book(0, bad), BAD);
        due("both", x.book(8, 2), NONE);
        for (int i = 0; i < 8; i++) due("book", x.book(i, i & 1), i + 1);
        due("a ninth", x.book(0, 0), FULL);
        due("a ninth, no corner", x.book(8, 0), NONE);
        due("a ninth, not told", x.book(0, 2), BAD);
        due("count", x.count(2), 8);
        due("empty then", x.book(-1, HIGH), 0);
        due("count", x.count(2), 0);
    }

    private static void looked() {
        promise = 28;
        CubeBodies x = of(0b100);
        due("empty", x.looked(), NOT_THERE);
        x.book(2, 1);
        x.book(3, 0);
        x.book(2, 1);
        due("all so", x.looked(), NOT_THERE);
        x.book(4, 1);
        due("the last", x.looked(), 3);
        x.code(0b1100);
        due("the second", x.looked(), 1);
        x.code(0);
        due("the first", x.looked(), 0);
    }

    private static void judge() {
        promise = 29;
        CubeBodies x = of(0b10000110);
        for (int bad : new int[] {-1, 6, LOW, HIGH}) due("tape " + bad, x.judge(bad, 0), NONE);
        due("nothing", x.judge(5, 0), 100);
        due("nothing, below", x.judge(5, -1), 100);
        x.tape(5, 4, 12);
        for (int k = 0; k < 8; k++) x.item(5, 3 + k, 0b10000110 >> k & 1);
        due("all so", x.judge(5, 3), NOT_THERE);
        due("from the front", x.judge(5, 0), 1);
        x.item(5, 10, 0);
        due("the last", x.judge(5, 3), 7);
        x.code(0);
        x.tape(4, 4, 7);
        due("seven", x.judge(4, 0), 107);
        due("one", x.judge(4, 6), 101);
        due("at the end", x.judge(4, 7), 100);
        due("far on", x.judge(4, HIGH), 100);
        due("below", x.judge(4, -1), 100);
        due("far below", x.judge(4, LOW), 100);
        x.tape(4, 4, 0);
        due("an empty row", x.judge(4, 0), 100);
        for (int sort = 0; sort < 4; sort++) {
            x.tape(3, sort, 8);
            due("sort " + sort, x.judge(3, 0), CAST);
            due("sort " + sort + ", below", x.judge(3, -1), CAST);
        }
    }

    private static void images() {
        promise = 30;
        CubeBodies x = of(5, 9);
        x.see(1, 2);
        x.event(0, 3);
        x.book(4, 1);
        due("image", x.image(), 5);
        promise = 31;
        x.code(200);
        x.keep();
        x.see(2, 2);
        x.event(-1, 0);
        x.book(-1, 0);
        x.book(0, 0);
        x.feed('f');
        x.tape(0, 2, 3);
        x.item(0, 1, 44);
        due("undo", x.undo(), 5);
        due("code", x.told(0), 5);
        due("kept", x.told(1), 9);
        due("seen", x.count(0), 1);
        due("events", x.count(1), 1);
        due("book", x.count(2), 1);
        due("the event", x.after(0), 13);
        due("the row", x.looked(), 0);
        due("the text stays", x.count(3), 1);
        due("the tape stays", x.peek(0, 1), 44);
        x.code(0);
        x.see(-1, 0);
        x.see(0, 77);
        due("undo again", x.undo(), 5);
        due("what was seen", x.fits(), 0);
        x.code(6);
        due("a newer image", x.image(), 6);
        x.code(7);
        due("undo to it", x.undo(), 6);
        due("none", of(3).undo(), STATE);
    }

    private static void count() {
        promise = 32;
        CubeBodies x = new CubeBodies();
        x.see(0, 1);
        x.event(0, 1);
        x.event(0, 1);
        x.book(0, 1);
        x.book(0, 1);
        x.book(0, 1);
        for (int i = 0; i < 4; i++) x.feed('f');
        for (int what = 0; what < 4; what++) due("count " + what, x.count(what), what + 1);
        for (int bad : new int[] {-1, 4, LOW, HIGH}) due("count " + bad, x.count(bad), BAD);
    }

    private static void tape() {
        promise = 33;
        CubeBodies x = new CubeBodies();
        for (int bad : new int[] {-1, 6, LOW, HIGH}) due("tape " + bad, x.tape(bad, 0, 1), NONE);
        for (int bad : new int[] {-2, 5, LOW, HIGH}) due("sort " + bad, x.tape(0, bad, 1), BAD);
        due("n 61", x.tape(0, 0, 61), BAD);
        due("n far on", x.tape(0, 0, HIGH), BAD);
        due("n -1", x.tape(0, 0, -1), SIZE);
        due("n far below", x.tape(0, 0, LOW), SIZE);
        due("sort ahead of n", x.tape(0, 5, -1), BAD);
        due("tape ahead of all", x.tape(6, 5, -1), NONE);
        due("still nothing", x.peek(0, 0), NO);
        due("60", x.tape(0, 3, 60), 1);
        due("item", x.item(0, 59, 5), 1);
        due("refused", x.tape(0, 3, -1), SIZE);
        due("stays", x.peek(0, 59), 5);
        due("all 0", x.tape(0, 3, 60), 1);
        due("peek", x.peek(0, 59), 0);
        due("0", x.tape(0, 3, 0), 1);
        due("no place", x.item(0, 0, 5), PLACE);
        due("nothing", x.tape(0, -1, HIGH), 1);
        due("nothing there", x.item(0, 0, 5), NOTHING);
        due("nothing, no tape", x.tape(6, -1, 0), NONE);
        due("nothing, below", x.tape(0, -1, -5), 1);
    }

    private static void item() {
        promise = 34;
        CubeBodies x = new CubeBodies();
        long v = 0x7edcba98f6d4c2b1L;
        long[] cut = {(byte) v, (short) v, (int) v, v, 1};
        for (int sort = 0; sort < 5; sort++) {
            due("tape", x.tape(sort, sort, 2), 1);
            due("item", x.item(sort, 1, v), 1);
            due("peek " + sort, x.peek(sort, 1), cut[sort]);
            due("its neighbour " + sort, x.peek(sort, 0), 0);
            for (int bad : new int[] {-1, 2, LOW, HIGH}) due("place " + bad, x.item(sort, bad, 1), PLACE);
        }
        due("a boolean of high bits", x.item(4, 0, 1L << 40), 1);
        due("is 1", x.peek(4, 0), 1);
        due("a boolean, 0", x.item(4, 0, 0), 1);
        due("is 0", x.peek(4, 0), 0);
        due("nothing", x.item(5, 0, 1), NOTHING);
        due("nothing ahead of place", x.item(5, -1, 1), NOTHING);
        for (int bad : new int[] {-1, 6, LOW, HIGH}) due("tape " + bad, x.item(bad, 0, 1), NONE);
    }

    private static void peek() {
        promise = 35;
        CubeBodies x = new CubeBodies();
        x.tape(2, 3, 3);
        x.item(2, 0, -1);
        x.item(2, 2, Long.MAX_VALUE);
        due("peek", x.peek(2, 0), -1);
        due("peek", x.peek(2, 1), 0);
        due("peek", x.peek(2, 2), Long.MAX_VALUE);
        for (int bad : new int[] {-1, 3, LOW, HIGH}) due("place " + bad, x.peek(2, bad), NO);
        for (int bad : new int[] {-1, 6, LOW, HIGH}) due("tape " + bad, x.peek(bad, 0), NO);
        due("nothing", x.peek(3, 0), NO);
    }

    private static void dueRow(CubeBodies x, int tape, long... items) {
        for (int i = 0; i < items.length; i++) due("item " + i, x.peek(tape, i), items[i]);
    }

    private static CubeBodies withTapes() {
        CubeBodies x = new CubeBodies();
        x.tape(0, 2, 5);
        for (int i = 0; i < 5; i++) x.item(0, i, i + 1);
        x.tape(1, 2, 3);
        x.tape(2, 1, 5);
        return x;
    }

    private static void shift() {
        promise = 36;
        CubeBodies x = withTapes();
        due("to another", x.shift(0, 1, 1, 0, 2), 2);
        dueRow(x, 1, 2, 3, 0);
        due("on, in the same", x.shift(0, 0, 0, 1, 4), 4);
        dueRow(x, 0, 1, 1, 2, 3, 4);
        due("back, in the same", x.shift(0, 2, 0, 0, 3), 3);
        dueRow(x, 0, 2, 3, 4, 3, 4);
        due("none, at the ends", x.shift(0, 5, 1, 3, 0), 0);
        for (int bad : new int[] {-1, 6, LOW, HIGH}) {
            due("tape " + bad, x.shift(bad, 0, 1, 0, 1), NONE);
            due("other " + bad, x.shift(0, 0, bad, 0, 1), NONE);
        }
        due("from nothing", x.shift(3, 0, 0, 0, 1), NOTHING);
        due("to nothing", x.shift(0, 0, 3, 0, 1), NOTHING);
        due("nothing ahead of place", x.shift(0, -1, 3, 0, 1), NOTHING);
        due("another sort", x.shift(0, 0, 2, 0, 1), CAST);
        due("another sort ahead of place", x.shift(0, 0, 2, 0, -1), CAST);
        int[][] places = {{-1, 0, 1}, {0, -1, 1}, {0, 0, -1}, {0, 0, 4}, {0, 1, 3}, {3, 0, 3}, {6, 0, 0}, {0, 4, 0},
            {HIGH, 0, 1}, {0, HIGH, 1}, {1, 1, HIGH}, {LOW, 0, 0}, {0, LOW, 0}, {0, 0, LOW}, {HIGH, HIGH, HIGH}};
        for (int[] at : places) {
            due("shift " + at[0] + " " + at[1] + " " + at[2], x.shift(0, at[0], 1, at[1], at[2]), PLACE);
        }
        dueRow(x, 0, 2, 3, 4, 3, 4);
        dueRow(x, 1, 2, 3, 0);
    }

    public static void main(String[] args) {
        newObject();
        corner();
        code();
        move();
        becomes();
        keep();
        feed();
        read();
        told();
        carried();
        imaged();
        forms();
        classes();
        weighs();
        face();
        edge();
        points();
        holds();
        floats();
        spread();
        see();
        fits();
        odds();
        mean();
        event();
        after();
        book();
        looked();
        judge();
        images();
        count();
        tape();
        item();
        peek();
        shift();
        System.out.println(wrong == 0 ? "all promises hold" : wrong + " answers are not as due");
        if (wrong != 0) System.exit(1);
    }
}

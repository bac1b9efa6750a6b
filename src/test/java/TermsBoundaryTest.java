/**
 * The boundaries that the document names ahead of its promises, in Terms and in the parts 2 and 3, a sentence
 * at a time, on either side of each.
 */
public final class TermsBoundaryTest extends Bench {
    private static void calls() {
        sentence("What it is", "An object is used for at most 512 calls after it has been made");
        CubeBodies x = new CubeBodies();
        for (int call = 1; call < 512; call++) due("call " + call, x.code(call & 255), call - 1 & 255);
        due("the last call", x.told(0), 255);
        x = new CubeBodies();
        for (int call = 1; call <= 128; call++) {
            due("corner", x.corner(call & 7, call >> 3 & 1), call < 8 ? 0 : 1 - (call >> 3 & 1));
            due("feed", x.feed('f'), call <= 100 ? call : FULL);
            due("sixfold", x.told(11), of(x.told(0)).told(11));
        }
        sentence("The constants", "`NO = Long.MIN_VALUE`: There is no such number.");
        due("NO", CubeBodies.NO, Long.MIN_VALUE);
        due("NONE", CubeBodies.NONE, -1);
        due("BAD", CubeBodies.BAD, -2);
        due("STATE", CubeBodies.STATE, -3);
        due("FULL", CubeBodies.FULL, -4);
    }

    // ---- Terms

    private static void corners() {
        sentence("Terms", "CORNER k has as x, y, z its bits 0, 1, 2 (each 0 or 1).");
        int[][] places = {{0, 0, 0}, {1, 0, 0}, {0, 1, 0}, {1, 1, 0}, {0, 0, 1}, {1, 0, 1}, {0, 1, 1}, {1, 1, 1}};
        for (int k = 0; k < 8; k++) {
            for (int axis = 0; axis < 3; axis++) {
                int want = Float.floatToIntBits((float) places[k][axis]);
                due("CORNER " + k + ", " + axis, of(1 << k).floats(axis), want);
            }
        }
        sentence("Terms", "some CORNERS (none at first), with all that is between them; CODE of it: bit k for CORNER k.");
        due("at first", new CubeBodies().told(0), 0);
        due("at first", new CubeBodies().told(2), 0);
        for (int k = 0; k < 8; k++) {
            CubeBodies x = new CubeBodies();
            x.corner(k, 1);
            due("CORNER " + k, x.told(0), 1 << k);
            due("how many", x.told(2), 1);
        }
        sentence("Terms", "KEPT: a body likewise (CODE 0 at first).");
        due("at first", new CubeBodies().told(1), 0);
        due("all together with it", of(255).becomes(2), 255);
        due("what all have with it", of(255).becomes(3), 0);
    }

    private static void moves() {
        sentence("Terms", "in the order told by m by 8 (cut): 0 x y z, 1 x z y, 2 y x z, 3 y z x, 4 z x y, 5 z y x");
        // where the CORNERS of x alone, y alone, z alone are carried
        int[][] alone = {{1, 2, 4}, {1, 4, 2}, {2, 1, 4}, {4, 1, 2}, {2, 4, 1}, {4, 2, 1}};
        CubeBodies x = new CubeBodies();
        for (int order = 0; order < 6; order++) {
            for (int axis = 0; axis < 3; axis++) {
                due("the first of order " + order, x.carried(8 * order, 1 << axis), alone[order][axis]);
                due("the last of order " + order, x.carried(8 * order + 7, 1 << axis), 7 - alone[order][axis]);
            }
        }
        sentence("Terms", "then each of these with bit 0, 1, 2 of m modulo 8 being 1 changed (0 for 1, 1 for 0), x by bit 0,"
                + " y by bit 1, z by bit 2.");
        for (int move = 0; move < 48; move++) {
            due("CORNER 0 by " + move, x.carried(move, 0), move % 8);
            due("CORNER 7 by " + move, x.carried(move, 7), 7 - move % 8);
        }
        sentence("Terms", "MOVES 0 .. 47");
        due("the last", x.carried(47, 1), 3);
        refused("beyond, in imaged", CubeBodies::imaged, 0, 47, NONE);
        refused("beyond, in move", CubeBodies::move, 0, 47, NONE);
        refused("beyond, in carried", (y, n) -> y.carried(n, 7), 0, 47, NONE);
        refused("beyond, in EVENTS", (y, n) -> y.event(1, n), 0, 47, NONE);
        due("the last, in EVENTS", new CubeBodies().event(1, 47), 1);
        due("the last, in a set-up", read(of(2), "m47"), 1);
        due("beyond, in a set-up", read(of(2), "m48"), 0);
    }

    private static void forms() {
        sentence("Terms", "FORM: the least CODE of an IMAGE of it by a MOVE.");
        int[][] all = {{0, 0}, {1, 1}, {128, 1}, {3, 3}, {192, 3}, {129, 24}, {24, 24}, {66, 24}, {240, 15}, {150, 105},
            {105, 105}, {254, 127}, {127, 127}, {255, 255}};
        for (int[] row : all) due("FORM of " + row[0], of(row[0]).told(3), row[1]);
        sentence("Terms", "CLASSES: FORMS of all bodies, numbered from 0 by their CODES, the least first.");
        due("the number of the first", of(0).told(4), 0);
        due("the second", of(128).told(4), 1);
        due("the last but one", of(254).told(4), 20);
        due("the number of the last", of(255).told(4), 21);
        int[] forms = {0, 1, 3, 6, 7, 15, 22, 23, 24, 25, 27, 30, 31, 60, 61, 63, 105, 107, 111, 126, 127, 255, NOT_THERE};
        for (int i = 0; i < forms.length; i++) due("CLASS " + i, new CubeBodies().form(i), forms[i]);
        sentence("Terms", "LIKE: how many unlike IMAGES it has. STILL: how many MOVES have it as its own IMAGE.");
        int[][] likeStill = {{0, 1, 48}, {255, 1, 48}, {105, 2, 24}, {129, 4, 12}, {240, 6, 8}, {1, 8, 6}, {3, 12, 4},
            {7, 24, 2}, {25, 24, 2}};
        for (int[] row : likeStill) {
            due("LIKE of " + row[0], of(row[0]).told(5), row[1]);
            due("STILL of " + row[0], of(row[0]).told(6), row[2]);
        }
    }

    private static void weights() {
        sentence("Terms", "WEIGHTS: three whole numbers -3 .. 3, not all 0");
        CubeBodies x = of(255);
        for (int at = 0; at < 3; at++) {
            for (int n = -4; n <= 4; n++) {
                int got = x.weighs(at == 0 ? n : 0, at == 1 ? n : 0, at == 2 ? n : 0, 0);
                due("weight " + n, got, n < -3 || n > 3 || n == 0 ? BAD : 100 + Math.max(n, 0));
            }
        }
        sentence("Terms", "MOST by WEIGHTS: the greatest that a CORNER of it weighs, LEAST: the least.");
        for (int k = 0; k < 8; k += 7) {
            due("of one CORNER alone, MOST", of(1 << k).weighs(3, 2, 1, 0), 100 + (k == 7 ? 6 : 0));
            due("of one CORNER alone, LEAST", of(1 << k).weighs(3, 2, 1, 1), 100 + (k == 7 ? 6 : 0));
            due("of one CORNER alone, those", of(1 << k).weighs(3, 2, 1, 2), 1 << k);
        }
        due("all alike", of(255).weighs(1, -1, 0, 0), 101);
        due("all that are", of(15).weighs(0, 0, 3, 2), 15);
        due("those alike", of(255).weighs(1, -1, 0, 2), 2 + 32);
    }

    private static void dimensions() {
        sentence("Terms", "DIMENSION: -1 without CORNERS; else how many of the vectors from its least CORNER to the others can"
                + " be taken so that none of them is told by the others (0 to 3).");
        int[][] all = {{0, -1}, {1, 0}, {128, 0}, {3, 1}, {129, 1}, {192, 1}, {7, 2}, {224, 2}, {15, 2}, {240, 2}, {60, 2},
            {195, 2}, {102, 2}, {153, 2}, {90, 2}, {165, 2}, {23, 3}, {105, 3}, {150, 3}, {31, 3}, {255, 3}};
        for (int[] row : all) due("DIMENSION of " + row[0] + " and 1", of(row[0]).told(10), row[1] + 1);
    }

    private static void facesAndEdges() {
        sentence("Terms", "FACE: three CORNERS of it or more, not all in one line, not all of its own, that weigh MOST by some"
                + " WEIGHTS, all others less");
        int[][] howMany = {{0, 0}, {1, 0}, {129, 0}, {7, 0}, {22, 0}, {15, 0}, {60, 0}, {23, 4}, {105, 4}, {31, 5}, {63, 5},
            {127, 7}, {126, 8}, {255, 6}};
        for (int[] row : howMany) due("FACES of " + row[0], of(row[0]).told(8), row[1]);
        for (int i = 0; i < 6; i++) due("three of four are none", Integer.bitCount(of(255).face(i)), 4);
        sentence("Terms", "FACES are numbered from 0 by their CODES, the least first.");
        int[] faces = {15, 42, 51, 76, 85, 104, 112, NOT_THERE};
        for (int i = 0; i < faces.length; i++) due("face " + i + " of 127", of(127).face(i), faces[i]);
        sentence("Terms", "EDGE: two CORNERS of it that weigh MOST by some WEIGHTS, all others less (also if it has no"
                + " others).");
        int[][] edges = {{0, 0}, {1, 0}, {3, 1}, {129, 1}, {9, 1}, {7, 3}, {22, 3}, {15, 4}, {60, 4}, {23, 6}, {105, 6},
            {31, 8}, {127, 12}, {126, 12}, {255, 12}};
        for (int[] row : edges) due("EDGES of " + row[0], of(row[0]).told(9), row[1]);
        due("no others, side by side", of(3).edge(0, 1), 1);
        due("no others, across", of(9).edge(0, 3), 1);
        due("no others, through the midst", of(129).edge(0, 7), 1);
        due("one more beside", of(131).edge(0, 7), 1);
        due("two more, around", of(153).edge(0, 7), 0);
        due("all others less", of(15).edge(0, 3), 0);
    }

    private static void points() {
        sentence("Terms", "IN m TIMES it (m 1 .. 3) is a place of whole numbers, if by all WEIGHTS it weighs no more than m times"
                + " MOST, and no less than m times LEAST.");
        for (int m = 1; m <= 3; m++) {
            for (int n = 0; n <= 3; n++) {
                due("up to m along x", of(3).holds(m, n, 0, 0), n <= m ? 1 : 0);
                due("up to m along y", of(5).holds(m, 0, n, 0), n <= m ? 1 : 0);
                due("up to m along z", of(17).holds(m, 0, 0, n), n <= m ? 1 : 0);
                due("just m", of(128).holds(m, n, n, n), n == m ? 1 : 0);
                due("no less", of(192).holds(m, n, m, m), n <= m ? 1 : 0);
                due("beside", of(3).holds(m, 1, n, 0), n == 0 ? 1 : 0);
            }
        }
        due("m 0", of(1).holds(0, 0, 0, 0), BAD);
        due("m 4", of(1).holds(4, 0, 0, 0), BAD);
        due("x, y, z together no more than m", of(23).holds(2, 1, 1, 0), 1);
        due("x, y, z together more than m", of(23).holds(2, 1, 1, 1), 0);
        sentence("Terms", "POINTS m: how many places of 0 .. 3 each are.");
        int[][] all = {{1, 1, 1, 1}, {128, 1, 1, 1}, {129, 2, 3, 4}, {7, 3, 6, 10}, {15, 4, 9, 16}, {23, 4, 10, 20},
            {255, 8, 27, 64}};
        for (int[] row : all) {
            for (int m = 1; m <= 3; m++) due("POINTS " + m + " of " + row[0], of(row[0]).points(m), row[m]);
        }
        sentence("Terms", "SIXFOLD: POINTS 3 less 3 times POINTS 2, and 3 times POINTS 1, less 1 (0 without CORNERS).");
        int[][] sixfolds = {{0, 0}, {1, 0}, {128, 0}, {129, 0}, {15, 0}, {60, 0}, {23, 1}, {105, 2}, {31, 2}, {63, 3},
            {126, 4}, {127, 5}, {255, 6}};
        for (int[] row : sixfolds) due("SIXFOLD of " + row[0], of(row[0]).told(11), row[1]);
        sentence("Terms", "WIDTH: over all WEIGHTS the least of MOST less LEAST (-5 without CORNERS).");
        int[][] widths = {{0, -5}, {1, 0}, {128, 0}, {129, 0}, {15, 0}, {60, 0}, {23, 1}, {105, 1}, {126, 1}, {255, 1}};
        for (int[] row : widths) due("WIDTH of " + row[0], of(row[0]).told(12), row[1]);
    }

    // ---- the set-up

    private static final String STARTS = "+-mfokui", DIGITS = "0123456789", ENDS = ";";

    /** Behind a beginning, each sign but those that may follow is a FAULT, there; these aren't, there. */
    private static void mayFollow(String beginning, String signs) {
        for (char sign = 0; sign < 128; sign++) {
            int answer = read(of(6), beginning + sign);
            boolean there = answer == -10 - beginning.length();
            due("a FAULT at sign " + (int) sign + " behind " + beginning, there ? 1 : 0, signs.indexOf(sign) < 0 ? 1 : 0);
        }
    }

    private static void texts() {
        sentence("Terms", "A set-up is read from THE TEXT (bytes, 100 at most)");
        CubeBodies x = new CubeBodies();
        for (int i = 0; i < 99; i++) due("feed", x.feed(HUNDRED.charAt(i)), i + 1);
        due("the hundredth", x.feed(HUNDRED.charAt(99)), 100);
        due("one more", x.feed('3'), FULL);
        due("all of them", x.read(), 11);
        due("the last of them counts, one more does not", x.told(0), 0b11110111);
        sentence("Terms", "CLAUSES, 1 to 12, with ; between");
        StringBuilder text = new StringBuilder("o");
        due("none", read(of(6), ""), -10);
        for (int clauses = 1; clauses <= 12; clauses++) {
            x = of(6);
            due(clauses + " of them", read(x, text.toString()), clauses);
            due("code", x.told(0), clauses % 2 == 0 ? 6 : 255 - 6);
            int due = clauses < 12 ? text.length() + 1 : text.length();
            due("; behind them", read(of(6), text + ";"), -10 - due);
            due("; ahead of them", read(of(6), ";" + text), -10);
            text.append(";o");
        }
        x = of(6);
        due("13 of them", read(x, text.toString()), -10 - 23);
        due("none of them is done", x.told(0), 6);
        due(";; between", read(of(6), "o;;o"), -12);
        sentence("Terms", "with ; between: + DIGITS, - DIGITS (1 to 8 CORNERS; all of them are in THE BODY then, or none of"
                + " them is");
        for (String sign : new String[] {"+", "-"}) {
            due("none", read(of(6), sign), -11);
            due("none, and another", read(of(6), sign + ";o"), -11);
            for (int digits = 1; digits <= 8; digits++) {
                x = of(0b10010110);
                due(digits + " of them", read(x, sign + "01234567".substring(0, digits)), 1);
                int mask = (1 << digits) - 1;
                due("code", x.told(0), sign.equals("+") ? 0b10010110 | mask : 0b10010110 & ~mask);
            }
            due("nine", read(of(6), sign + "012345670"), -19);
            due("nine, the last is 8", read(of(6), sign + "012345678"), -19);
            x = of(0b10010110);
            due("eight times one", read(x, sign + "77777777"), 1);
            due("code", x.told(0), sign.equals("+") ? 0b10010110 : 0b10110);
        }
        mayFollow("+", DIGITS);
        mayFollow("-", DIGITS);
        mayFollow("+0", DIGITS + ENDS);
        mayFollow("-0123456", DIGITS + ENDS);
        mayFollow("+01234567", ENDS);
        mayFollow("-99999999", ENDS);
    }

    private static void clauses() {
        sentence("Terms", "refused, if a DIGIT is 8 or 9");
        String[] taken = {"+0", "+7", "+01234567", "-7", "-0"};
        String[] not = {"+8", "+9", "-8", "-9", "+08", "+80", "+01234568", "-81234567", "-0192345", "+99999999"};
        for (String text : taken) due(text, read(of(6), text), 1);
        for (String text : not) {
            CubeBodies x = of(6);
            due(text, read(x, text), 0);
            due("code behind " + text, x.told(0), 6);
        }
        sentence("Terms", "m NUMBER (1 or 2 digits; as move())");
        due("no digit", read(of(2), "m"), -11);
        due("three digits", read(of(2), "m007"), -13);
        String[] numbers = {"m0", "m9", "m00", "m09", "m10", "m47"};
        int[] bodies = {4, 32, 4, 32, 64, 32};
        for (int i = 0; i < numbers.length; i++) {
            CubeBodies x = of(4);
            due(numbers[i], read(x, numbers[i]), 1);
            due("code behind " + numbers[i], x.told(0), bodies[i]);
        }
        for (String text : new String[] {"m48", "m49", "m50", "m80", "m99"}) {
            CubeBodies x = of(2);
            due(text, read(x, text), 0);
            due("code behind " + text, x.told(0), 2);
        }
        mayFollow("m", DIGITS);
        mayFollow("m4", DIGITS + ENDS);
        mayFollow("m9", DIGITS + ENDS);
        mayFollow("m47", ENDS);
        mayFollow("m99", ENDS);
        sentence("Terms", "f (THE BODY becomes its FORM); o (all other CORNERS); k (as keep()); u (THE BODY becomes it and KEPT,"
                + " together); i (what both have).");
        String[] signs = {"f", "o", "k", "u", "i"};
        int[][] all = {{0, 0, 0, 255, 0, 0, 0}, {0, 255, 0, 255, 0, 255, 0}, {255, 0, 255, 0, 255, 255, 0},
            {255, 255, 255, 0, 255, 255, 255}, {128, 3, 1, 127, 128, 131, 0}};
        for (int[] row : all) {
            for (int i = 0; i < 5; i++) {
                CubeBodies x = of(row[0], row[1]);
                due(signs[i] + " of " + row[0] + ", " + row[1], read(x, signs[i]), 1);
                due("code", x.told(0), row[2 + i]);
                due("kept", x.told(1), i == 2 ? row[0] : row[1]);
                due("twice", read(of(6), signs[i] + signs[i]), -11);
                due("with a digit", read(of(6), signs[i] + "1"), -11);
            }
        }
        for (String sign : signs) mayFollow(sign, ENDS);
        mayFollow("", STARTS);
        mayFollow("f;", STARTS);
        mayFollow("+0;", STARTS);
        mayFollow("f;f;f;f;f;f;f;f;f;f;f;", STARTS);
        mayFollow("f;f;f;f;f;f;f;f;f;f;f;f", "");
        mayFollow("f;f;f;f;f;f;f;f;f;f;f;+1", DIGITS);
        mayFollow("f;f;f;f;f;f;f;f;f;f;f;m1", DIGITS);
    }

    private static void faults() {
        sentence("Terms", "Nothing else stands between (no blanks).");
        String text = "+01;m47;-2;f";
        for (int place = 0; place <= text.length(); place++) {
            for (char between : new char[] {' ', '\t', '\n', ',', 0, 127}) {
                CubeBodies x = of(6);
                due("between at " + place, read(x, text.substring(0, place) + between + text.substring(place)), -10 - place);
                due("code", x.told(0), 6);
            }
        }
        sentence("Terms", "The FAULT: the place of the first byte with which none begins so (the end of THE TEXT, if it ends too"
                + " early).");
        for (int length = 0; length < text.length(); length++) {
            String part = text.substring(0, length);
            boolean early = part.isEmpty() || "+-m;".indexOf(part.charAt(length - 1)) >= 0;
            int answer = read(of(6), part);
            due("cut at " + length, answer < 0 ? answer : 0, early ? -10 - length : 0);
        }
        due("the first of two", read(of(6), "+0;x;y"), -13);
        due("at the first byte", read(of(6), "8"), -10);
        due("at the last byte", read(of(6), "f;f?"), -13);
        String ten = HUNDRED.substring(0, 90) + "-01234567";
        due("99 bytes", read(of(6), ten), 10);
        due("ends too early at 100", read(of(6), ten + ";"), -110);
        due("no ; at the hundredth", read(of(6), HUNDRED.substring(0, 96) + "k;k+"), -109);
        due("ends too early at 100, behind m", read(of(6), HUNDRED.substring(0, 96) + "+0;m"), -110);
        due("at the hundredth", read(of(6), HUNDRED.substring(0, 99) + "?"), -109);
        sentence("Terms", "Without it they are done, one behind the other; those that would be refused aren't.");
        CubeBodies x = of(6);
        due("with it, none is", read(x, "+0;k;o;f;x"), -19);
        due("code", x.told(0), 6);
        due("kept", x.told(1), 0);
        due("one behind the other", read(x, "k;o;u"), 3);
        due("code", x.told(0), 255);
        due("kept", x.told(1), 6);
        x = of(6);
        due("others first", read(x, "o;k;i"), 3);
        due("code", x.told(0), 249);
        due("kept", x.told(1), 249);
        x = of(6);
        due("refused at the front, amid, at the end", read(x, "+8;+0;m48;-1;-19"), 2);
        due("code", x.told(0), 5);
        due("twelve refused", read(x, "m48;m48;m48;m48;m48;m48;m48;m48;m48;m48;m48;m48"), 0);
    }

    // ---- 2

    private static void asked() {
        sentence("2", "FAR from KEPT: over all MOVES the least of how many CORNERS are in just one of THE BODY's IMAGE and KEPT.");
        int[][] far = {{0, 0, 0}, {255, 255, 0}, {0, 255, 8}, {255, 0, 8}, {1, 0, 1}, {0, 128, 1}, {1, 128, 0}, {105, 150, 0},
            {3, 129, 2}, {15, 105, 4}, {127, 254, 0}, {127, 1, 6}};
        for (int[] row : far) due("FAR of " + row[0] + " from " + row[1], of(row[0], row[1]).told(7), row[2]);
        sentence("2", "CENTRE, a float: of x, y or z: (float) that of CORNERS of THE BODY, from the least on, added up from 0.0f,"
                + " by (float) how many.");
        int[][] bits = {{1, 0, 0}, {128, 0, 0x3f800000}, {128, 2, 0x3f800000}, {255, 1, 0x3f000000}, {7, 0, 0x3eaaaaab},
            {22, 2, 0x3eaaaaab}, {224, 1, 0x3f2aaaab}, {127, 0, 0x3edb6db7}, {254, 2, 0x3f124925}};
        for (int[] row : bits) due("CENTRE of " + row[0] + ", " + row[1], of(row[0]).floats(row[1]), row[2]);
        sentence("2", "FAT, a float: (float) SIXFOLD / 6.0f, that by (float) WIDTH (0.0f, if WIDTH is 0).");
        int[][] fat = {{1, 0}, {129, 0}, {15, 0}, {60, 0}, {23, 0x3e2aaaab}, {105, 0x3eaaaaab}, {63, 0x3f000000},
            {126, 0x3f2aaaab}, {127, 0x3f555555}, {255, 0x3f800000}};
        for (int[] row : fat) due("FAT of " + row[0], of(row[0]).floats(3), row[1]);
        sentence("2", "SPREAD, a double: over x, y, z, one behind the other, from 0.0 on: (double) CENTRE less 0.5, times itself,"
                + " added.");
        due("the greatest", of(1).spread(), 0x3fe8000000000000L);
        due("the greatest", of(128).spread(), 0x3fe8000000000000L);
        due("none", of(255).spread(), 0L);
        due("none", of(129).spread(), 0L);
        due("one side", of(15).spread(), 0x3fd0000000000000L);
        double off = (double) (3.0f / 7.0f) - 0.5;
        due("the least that is not 0", of(127).spread(), Double.doubleToLongBits(off * off + off * off + off * off));
    }

    private static void seen() {
        sentence("2", "how much (0 .. 99; 4 rows at most)");
        CubeBodies x = new CubeBodies();
        due("-1", x.see(0, -1), BAD);
        due("0", x.see(0, 0), 1);
        due("99", x.see(0, 99), 2);
        due("100", x.see(0, 100), BAD);
        due("third", x.see(0, 99), 3);
        due("fourth", x.see(0, 99), 4);
        due("fifth", x.see(0, 99), FULL);
        sentence("2", "FITS: CORNERS (bits) by which, were each alone in THE BODY, if it isn't, or not, if it is, all of SEEN"
                + " would be so.");
        // what is seen of a body with one CORNER changed, from none, from all, from the half
        int[][] all = {{0, 0, 1, 255}, {0, 0, 0, 0}, {0, 3, 1, 255}, {255, 0, 7, 255}, {255, 0, 8, 0}, {255, 1, 5, 255},
            {255, 2, 7, 255}, {255, 3, 20, 255}, {15, 0, 5, 240}, {15, 0, 3, 15}, {15, 1, 2, 240}, {15, 2, 5, 240},
            {15, 2, 0, 15}, {15, 3, 12, 240}, {15, 3, 4, 15}, {1, 0, 0, 1}, {128, 0, 0, 128}, {15, 0, 99, 0}};
        for (int[] row : all) {
            x = of(row[0]);
            x.see(row[1], row[2]);
            due("FITS of " + row[0] + " by " + row[1] + ", " + row[2], x.fits(), row[3]);
        }
        x = of(15);
        due("nothing SEEN", x.fits(), 255);
        x.see(0, 5);
        x.see(1, 2);
        x.see(2, 5);
        x.see(3, 12);
        due("all four so", x.fits(), 240);
        x.see(-1, 0);
        x.see(0, 5);
        x.see(1, 2);
        x.see(2, 5);
        x.see(3, 13);
        due("the last of four not so", x.fits(), 0);
        sentence("2", "ODDS of a CORNER: MOVES being alike likely, how likely it is in the IMAGE: a fraction in lowest terms.");
        int[][] odds = {{0, 0, 1}, {128, 1, 8}, {129, 1, 4}, {7, 3, 8}, {15, 1, 2}, {31, 5, 8}, {126, 3, 4}, {254, 7, 8},
            {255, 1, 1}};
        for (int[] row : odds) {
            for (int corner = 0; corner < 8; corner += 7) {
                due("above, of " + row[0], of(row[0]).odds(corner, 0), row[1]);
                due("below, of " + row[0], of(row[0]).odds(corner, 1), row[2]);
            }
        }
        sentence("2", "MEAN: how many CORNERS an IMAGE of THE BODY and KEPT have in common, added up over all MOVES, by 48: a"
                + " fraction in lowest terms (0 by 1).");
        int[][] means = {{0, 0, 0, 1}, {0, 255, 0, 1}, {255, 0, 0, 1}, {1, 1, 1, 8}, {255, 255, 8, 1}, {255, 1, 1, 1},
            {7, 7, 9, 8}, {127, 127, 49, 8}, {15, 15, 2, 1}, {3, 15, 1, 1}};
        for (int[] row : means) {
            due("above, of " + row[0], of(row[0], row[1]).mean(0), row[2]);
            due("below, of " + row[0], of(row[0], row[1]).mean(1), row[3]);
        }
    }

    private static void eventsAndBooks() {
        sentence("2", "what happens (0 CORNER n is in THE BODY, if it wasn't, else not any more; 1 MOVE n carries it; 2 it"
                + " becomes all other CORNERS (n 0); 8 rows at most)");
        CubeBodies x = of(128);
        due("is", x.event(0, 0), 1);
        due("after", x.after(0), 129);
        due("not any more", x.event(0, 7), 2);
        due("after", x.after(0), 1);
        due("is again", x.event(0, 7), 3);
        due("after", x.after(0), 129);
        due("carried by the first", x.event(1, 0), 4);
        due("after", x.after(0), 129);
        due("carried by the last", x.event(1, 47), 5);
        due("after", x.after(0), 129);
        due("all other", x.event(2, 0), 6);
        due("after", x.after(0), 126);
        due("all other", x.event(2, 0), 7);
        due("not any more", x.event(0, 0), 8);
        due("after", x.after(0), 128);
        due("a ninth", x.event(2, 0), FULL);
        due("after", x.after(0), 128);
        sentence("2", "AFTER, behind all of it: CODE; SIXFOLD; the number of the CLASS.");
        x = new CubeBodies();
        int[] nothing = {0, 0, 0};
        int[] all = {255, 6, 21};
        for (int what = 0; what < 3; what++) due("behind nothing", x.after(what), nothing[what]);
        x.event(2, 0);
        for (int what = 0; what < 3; what++) due("behind one", x.after(what), all[what]);
        due("asked", x.told(0), 0);
        sentence("2", "A BOOK told by hand: CORNERS, whether (1, 0) they are in THE BODY (8 rows at most)");
        x = of(1);
        for (int i = 1; i <= 8; i++) due("row", x.book(i == 8 ? 7 : 0, i == 8 ? 0 : 1), i);
        due("a ninth", x.book(7, 1), FULL);
        due("as it was", x.looked(), NOT_THERE);
        sentence("2", "LOOKED at: the number (from 0) of the first of these rows that is otherwise now (-5: none).");
        due("none", x.looked(), NOT_THERE);
        x.corner(7, 1);
        due("the last", x.looked(), 7);
        x.corner(0, 0);
        due("the first", x.looked(), 0);
        x.book(-1, 0);
        due("empty", x.looked(), NOT_THERE);
        x.book(7, 1);
        x.book(7, 0);
        due("the second", x.looked(), 1);
        sentence("2", "THE IMAGE KEPT BY HAND (image()): THE BODY, KEPT, SEEN, EVENTS, the BOOK.");
        x = in(BRIMFUL);
        x.tape(0, 2, 1);
        x.read();
        x.code(0);
        due("back", x.undo(), 255);
        due("THE TEXT stays as it is", x.count(3), 0);
        due("the TAPES too", x.item(0, 1, 1), PLACE);
    }

    // ---- 3

    private static void tapes() {
        sentence("3", "TAPES 0 .. 5 hold nothing (at first), or a row of 0 bytes, 1 shorts, 2 ints, 3 longs, 4 booleans (items"
                + " 0, 1).");
        CubeBodies x = new CubeBodies();
        for (int tape = -1; tape <= 6; tape++) {
            boolean there = tape >= 0 && tape <= 5;
            due("item of " + tape, x.item(tape, 0, 1), there ? NOTHING : NONE);
            due("peek of " + tape, x.peek(tape, 0), NO);
            due("judge of " + tape, x.judge(tape, 0), there ? 100 : NONE);
            due("shift of " + tape, x.shift(tape, 0, 0, 0, 0), there ? NOTHING : NONE);
            due("shift to " + tape, x.shift(0, 0, tape, 0, 0), there ? NOTHING : NONE);
        }
        for (int tape = -1; tape <= 6; tape++) {
            due("row of " + tape, x.tape(tape, 3, 60), tape >= 0 && tape <= 5 ? 1 : NONE);
        }
        for (int tape = 0; tape <= 5; tape++) x.item(tape, 59, tape + 7L);
        for (int tape = 0; tape <= 5; tape++) due("each its own", x.peek(tape, 59), tape + 7L);
        for (int sort = -2; sort <= 5; sort++) {
            due("sort " + sort, x.tape(0, sort, 1), sort >= -1 && sort <= 4 ? 1 : BAD);
        }
    }

    private static CubeBodies judged(int code, int length, int... ones) {
        CubeBodies x = of(code);
        x.tape(5, 4, length);
        for (int i : ones) x.item(5, i, 1);
        return x;
    }

    private static void judging() {
        sentence("3", "is JUDGED: the first CORNER that is otherwise; -5: none");
        due("none, a row of just 8", judged(0, 8).judge(5, 0), NOT_THERE);
        due("none, a row of 60", judged(0, 60).judge(5, 52), NOT_THERE);
        due("none, all are", judged(255, 8, 0, 1, 2, 3, 4, 5, 6, 7).judge(5, 0), NOT_THERE);
        due("the first", judged(1, 8).judge(5, 0), 0);
        due("the first, by the row", judged(0, 8, 0).judge(5, 0), 0);
        due("the last", judged(128, 8).judge(5, 0), 7);
        due("the last, by the row", judged(0, 60, 59).judge(5, 52), 7);
        due("the first of two", judged(0b10010, 8).judge(5, 0), 1);
        sentence("3", "100 and how many were looked at, if the row ends ahead of that (or the place is below 0, or the TAPE"
                + " holds nothing).");
        due("7 of 7", judged(0, 7).judge(5, 0), 107);
        due("7 of 60", judged(0, 60).judge(5, 53), 107);
        due("1 of 60", judged(0, 60).judge(5, 59), 101);
        due("at the end", judged(0, 60).judge(5, 60), 100);
        due("otherwise at the last there is", judged(0, 60, 59).judge(5, 53), 6);
        due("otherwise beyond it", judged(128, 7).judge(5, 0), 107);
        due("an empty row", judged(0, 0).judge(5, 0), 100);
        due("an empty row, of all", judged(255, 0).judge(5, 0), 100);
        due("nothing", judged(255, 8).judge(4, 0), 100);
        for (int place : outside(0, 60)) {
            still(SOME, "place " + place, x -> x.judge(4, place), 100);
            still(SOME, "nothing, place " + place, x -> x.judge(5, place), 100);
            still(BRIMFUL, "place " + place, x -> x.judge(4, place), 100);
        }
        for (int i = 0; i <= 8; i++) {
            due("places that wrap round", judged(0, 60).judge(5, HIGH - i), 100);
            due("places below 0 that come to 0", judged(0, 60).judge(5, -i), i == 0 ? NOT_THERE : 100);
        }
    }

    private static void hostsRefusals() {
        sentence("3", "The host's refusals: NOTHING (-11): nothing is there; CAST (-12): another sort; PLACE (-13): no such place;"
                + " SIZE (-14): a size below 0.");
        CubeBodies x = new CubeBodies();
        due("nothing is there", x.item(0, 0, 1), -11);
        x.tape(0, 3, 1);
        due("something is", x.item(0, 0, 1), 1);
        due("another sort", x.judge(0, 0), -12);
        x.tape(0, 4, 1);
        due("that sort", x.judge(0, 0), 101);
        due("no such place", x.item(0, 1, 1), -13);
        due("such a place", x.item(0, 0, 1), 1);
        due("a size below 0", x.tape(0, 4, -1), -14);
        due("a size of 0", x.tape(0, 4, 0), 1);
    }

    // ---- answers

    private static void answers() {
        sentence("Answers", "the first that a call's words name.");
        still("corner: NONE, BAD", x -> x.corner(8, 2), NONE);
        still(BRIMFUL, "feed: BAD, FULL", x -> x.feed(128), BAD);
        still(BARE, "weighs: BAD, NONE, STATE", x -> x.weighs(4, 0, 0, 3), BAD);
        still(BARE, "weighs: BAD, STATE", x -> x.weighs(0, 0, 0, 0), BAD);
        still(BARE, "weighs: NONE, STATE", x -> x.weighs(1, 0, 0, 3), NONE);
        still(BARE, "edge: NONE, -5", x -> x.edge(0, 8), NONE);
        still(BARE, "points: BAD, STATE", x -> x.points(0), BAD);
        still(BARE, "holds: BAD, STATE", x -> x.holds(1, 0, 4, 0), BAD);
        still(BARE, "floats: NONE, STATE", x -> x.floats(4), NONE);
        still(BRIMFUL, "see: NONE, BAD, FULL", x -> x.see(4, 100), NONE);
        still(BRIMFUL, "see: BAD, FULL", x -> x.see(3, 100), BAD);
        still(BRIMFUL, "event: NONE, FULL", x -> x.event(3, 1), NONE);
        still(BRIMFUL, "event, CORNER n: NONE, FULL", x -> x.event(0, 8), NONE);
        still(BRIMFUL, "event, MOVE n: NONE, FULL", x -> x.event(1, 48), NONE);
        still(BRIMFUL, "event: BAD, FULL", x -> x.event(2, 1), BAD);
        still(BRIMFUL, "book: NONE, BAD, FULL", x -> x.book(8, 2), NONE);
        still(BRIMFUL, "book: BAD, FULL", x -> x.book(7, 2), BAD);
        still("judge: NONE, 100", x -> x.judge(6, -1), NONE);
        still(SOME, "judge: CAST, 100", x -> x.judge(3, -1), CAST);
        still("tape: NONE, BAD, SIZE", x -> x.tape(6, 5, -1), NONE);
        still("tape: BAD, SIZE", x -> x.tape(5, 5, -1), BAD);
        still("item: NONE, NOTHING, PLACE", x -> x.item(6, -1, 1), NONE);
        still(SOME, "item: NOTHING, PLACE", x -> x.item(5, -1, 1), NOTHING);
        still(SOME, "shift: NONE, NOTHING, PLACE", x -> x.shift(5, -1, 6, -1, -1), NONE);
        still(SOME, "shift: NOTHING, PLACE", x -> x.shift(5, -1, 0, -1, -1), NOTHING);
        still(SOME, "shift: CAST, PLACE", x -> x.shift(4, -1, 0, -1, -1), CAST);
        sentence("Answers", "What is answered so changes nothing; what is asked changes nothing.");
        asked("all refusals, one behind the other", TermsBoundaryTest::refuseAll);
        asked("all questions, one behind the other", TermsBoundaryTest::askAll);
        sentence("2", "All that follows is asked, and changes nothing.");
        asked("what is asked behind 2", x -> x.told(7) + x.floats(0) + x.floats(3) + x.spread() + x.fits() + x.odds(7, 0)
                + x.mean(1) + x.after(0) + x.after(1) + x.after(2) + x.looked());
    }

    private static long refuseAll(CubeBodies x) {
        for (int n : new int[] {-5, 301, LOW, HIGH}) {
            due("corner", x.corner(n, 1), NONE);
            due("is", x.corner(1, n), BAD);
            due("code", x.code(n), BAD);
            due("move", x.move(n), NONE);
            due("becomes", x.becomes(n), NONE);
            due("feed", x.feed(n), BAD);
            due("see", x.see(n, 1), NONE);
            due("see", x.see(1, n), BAD);
            due("event", x.event(n, 0), NONE);
            due("event", x.event(0, n), NONE);
            due("book", x.book(n, 1), NONE);
            due("book", x.book(1, n), BAD);
            due("tape", x.tape(n, 0, 1), NONE);
            due("sort", x.tape(1, n, 1), BAD);
            due("size", x.tape(1, 1, n), n < 0 ? SIZE : BAD);
            due("item", x.item(n, 0, 1), NONE);
            due("shift", x.shift(n, 0, 1, 0, 1), NONE);
        }
        return 0;
    }

    private static long askAll(CubeBodies x) {
        long sum = x.spread() + x.fits() + x.looked() + x.mean(0) + x.mean(1);
        for (int n = 0; n < 8; n++) {
            sum += x.told(n) + x.told(n + 5) + x.carried(n, n) + x.imaged(6 * n) + x.form(n) + x.classes(n);
            sum += x.weighs(n - 3, 1, 0, n % 3) + x.face(n) + x.edge(n, 7 - n) + x.points(n % 4) + x.holds(n % 4, 1, 1, 1);
            sum += x.floats(n % 4) + x.odds(n, 1) + x.after(n % 3) + x.judge(n % 6, 0) + x.count(n % 4) + x.peek(n % 6, n);
        }
        return sum;
    }

    public static void main(String[] args) {
        calls();
        corners();
        moves();
        forms();
        weights();
        dimensions();
        facesAndEdges();
        points();
        texts();
        clauses();
        faults();
        asked();
        seen();
        eventsAndBooks();
        tapes();
        judging();
        hostsRefusals();
        answers();
        end();
    }
}

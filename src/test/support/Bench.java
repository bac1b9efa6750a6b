import java.io.IOException;
import java.nio.file.Files;
import java.nio.file.Path;

/**
 * What the boundary tests share: the sentence that is tested, answers that are due, and calls that must
 * change nothing, made in several states, behind each of which all that can be asked is asked.
 */
abstract class Bench {
    static final int NONE = -1, BAD = -2, STATE = -3, FULL = -4, NOT_THERE = -5;
    static final int NOTHING = -11, CAST = -12, PLACE = -13, SIZE = -14;
    static final long NO = Long.MIN_VALUE;
    static final int LOW = Integer.MIN_VALUE, HIGH = Integer.MAX_VALUE;

    /** Corners, KEPT, rows and a text in part, tapes 0 .. 4 with five of each sort, tape 5 with nothing. */
    static final int SOME = 0;
    /** The same without CORNERS in THE BODY. */
    static final int BARE = 1;
    /** All that can be full is full: THE BODY, KEPT, THE TEXT, all rows, all tapes. */
    static final int BRIMFUL = 2;
    /** As it is made. */
    static final int FRESH = 3;
    private static final String[] STATES = {"some", "bare", "brimful", "fresh"};

    /** 100 signs, 11 clauses, without a FAULT; each of the last digits is seen in what comes of it. */
    static final String HUNDRED = "+01234567;-01234567;+01234567;-01234567;+01234567;-01234567;"
            + "+01234567;-01234567;+01234567;-0123;+012";

    private static final int PARTS = 4;
    private static final int[] PROBES = {0, 1, 7, 22, 105, 126, 128, 240, 254, 255};
    private static final long MARK = 0x7edcba98f6d4c2b1L;

    interface Call {
        long on(CubeBodies x, int n);
    }

    interface Ask {
        long on(CubeBodies x);
    }

    private static final long[][][] known = new long[STATES.length][PARTS][];
    private static final String document = documentWords();
    private static String where = "";
    private static int sentences = 0;
    private static int answers = 0;
    private static int wrong = 0;

    private static String documentWords() {
        try {
            return plain(Files.readString(Path.of("../shared/DOC.md")));
        } catch (IOException e) {
            return "";
        }
    }

    private static String plain(String words) {
        return words.replaceAll("\\s+", " ");
    }

    /** What follows tests these words; they are looked up, so that a changed document is noticed. */
    static void sentence(String place, String words) {
        where = place + " \"" + words + "\"";
        sentences++;
        if (!document.contains(plain(words))) {
            System.out.println("(the document does not say it so any more: " + where + ")");
        }
    }

    static void due(String call, long got, long want) {
        answers++;
        if (got != want) {
            wrong++;
            System.out.println(where + ": " + call + " answered " + got + ", due is " + want);
        }
    }

    static void end() {
        System.out.println(sentences + " sentences, " + answers + " answers, "
                + (wrong == 0 ? "all as due" : wrong + " not as due"));
        if (wrong != 0) System.exit(1);
    }

    // ---- objects

    static CubeBodies of(int code) {
        CubeBodies x = new CubeBodies();
        x.code(code);
        return x;
    }

    static CubeBodies of(int code, int kept) {
        CubeBodies x = of(kept);
        x.keep();
        x.code(code);
        return x;
    }

    static void feed(CubeBodies x, String text) {
        for (int i = 0; i < text.length(); i++) x.feed(text.charAt(i));
    }

    static int read(CubeBodies x, String text) {
        feed(x, text);
        return x.read();
    }

    static CubeBodies in(int state) {
        CubeBodies x = new CubeBodies();
        if (state == SOME || state == BARE) fillInPart(x, state == BARE ? 0 : 0b10110);
        if (state == BRIMFUL) fill(x);
        return x;
    }

    private static void fillInPart(CubeBodies x, int body) {
        x.code(0b1111000);
        x.see(2, 4);
        x.event(2, 0);
        x.book(6, 0);
        x.image();
        x.code(0b1001);
        x.keep();
        x.code(body);
        x.see(-1, 0);
        x.see(0, 4);
        x.see(1, 1);
        x.event(0, 3);
        x.event(1, 25);
        x.book(2, 1);
        x.book(0, 0);
        feed(x, "+3;k;m9");
        for (int tape = 0; tape < 5; tape++) {
            x.tape(tape, tape, 5);
            for (int i = 0; i < 5; i++) x.item(tape, i, i + 1 & 2);
        }
    }

    private static void fill(CubeBodies x) {
        x.code(255);
        x.keep();
        for (int i = 0; i < 4; i++) x.see(i, new int[] {7, 5, 7, 20}[i]);
        for (int i = 0; i < 8; i++) x.event(i % 2, 5 * i % 8);
        for (int i = 0; i < 8; i++) x.book(i, 1);
        x.image();
        feed(x, HUNDRED);
        for (int tape = 0; tape < 6; tape++) {
            x.tape(tape, tape % 5, 60);
            for (int i = 0; i < 60; i += 59) x.item(tape, i, 1);
        }
    }

    // ---- calls that change nothing

    /** Numbers that are not told where low .. high are: the next ones, the ends of int, what a cast would cut. */
    static int[] outside(int low, int high) {
        int[] all = {low - 1, high + 1, low - 2, high + 2, low - 32, high + 32, low - 256, high + 256, low - 65536,
            high + 65536, LOW, LOW + 1, LOW + low, HIGH, HIGH - 1, LOW + high};
        int size = 0;
        for (int n : all) {
            if (n < low || n > high) all[size++] = n;
        }
        return java.util.Arrays.copyOf(all, size);
    }

    /** Each number outside low .. high is answered so in each state, and nothing is changed by it. */
    static void refused(String name, Call call, int low, int high, long want) {
        for (int state = 0; state < STATES.length; state++) refusedIn(state, name, call, low, high, want);
    }

    static void refusedIn(int state, String name, Call call, int low, int high, long want) {
        for (int n : outside(low, high)) still(state, name + " with " + n, x -> call.on(x, n), want);
    }

    /** In each state. */
    static void still(String name, Ask call, long want) {
        for (int state = 0; state < STATES.length; state++) still(state, name, call, want);
    }

    static void still(int state, String name, Ask call, long want) {
        for (int part = 0; part < PARTS; part++) {
            CubeBodies x = in(state);
            due(name + " (" + STATES[state] + ")", call.on(x), want);
            same(state, name, part, x);
        }
    }

    /** What is asked may answer what it likes, in each state, but changes nothing. */
    static void asked(String name, Ask call) {
        for (int state = 0; state < STATES.length; state++) {
            for (int part = 0; part < PARTS; part++) {
                CubeBodies x = in(state);
                call.on(x);
                same(state, name, part, x);
            }
        }
    }

    private static void same(int state, String name, int part, CubeBodies x) {
        if (known[state][part] == null) known[state][part] = allOf(in(state), part);
        long[] want = known[state][part];
        long[] got = allOf(x, part);
        for (int i = 0; i < want.length; i++) {
            due("behind " + name + " (" + STATES[state] + "), part " + part + ", question " + i, got[i], want[i]);
        }
    }

    /** An object has 512 calls: it is asked in parts, each of an object of its own. */
    private static long[] allOf(CubeBodies x, int part) {
        Answers all = new Answers();
        switch (part) {
            case 0: askBodies(x, all); break;
            case 1: askRows(x, all); break;
            case 2: askTapes(x, all, 0); break;
            default: askTapes(x, all, 3); break;
        }
        return java.util.Arrays.copyOf(all.numbers, all.size);
    }

    private static final class Answers {
        private final long[] numbers = new long[512];
        private int size = 0;

        private void add(long number) {
            numbers[size++] = number;
        }
    }

    private static void askBodies(CubeBodies x, Answers all) {
        for (int what = 0; what <= 12; what++) all.add(x.told(what));
        for (int what = 0; what < 4; what++) all.add(x.floats(what));
        all.add(x.spread());
        all.add(x.mean(0));
        askCounts(x, all);
        all.add(x.read());
        all.add(x.told(0));
        all.add(x.told(1));
        askCounts(x, all);
        all.add(x.undo());
        all.add(x.told(0));
        all.add(x.told(1));
        askCounts(x, all);
    }

    private static void askCounts(CubeBodies x, Answers all) {
        for (int what = 0; what < 4; what++) all.add(x.count(what));
        all.add(x.fits());
        all.add(x.after(0));
        all.add(x.looked());
    }

    /** Rows show themselves by what they answer of other bodies; those of the image likewise. */
    private static void askRows(CubeBodies x, Answers all) {
        for (int turn = 0; turn < 2; turn++) {
            for (int code : PROBES) {
                x.code(code);
                all.add(x.fits());
                all.add(x.after(0));
                all.add(x.looked());
            }
            all.add(x.undo());
        }
    }

    private static void askTapes(CubeBodies x, Answers all, int first) {
        for (int tape = first; tape < first + 3; tape++) {
            for (int i = 0; i <= 60; i++) all.add(x.peek(tape, i));
            all.add(x.judge(tape, 0));
            // the sort shows itself by how it cuts
            all.add(x.item(tape, 0, MARK));
            all.add(x.peek(tape, 0));
        }
    }
}

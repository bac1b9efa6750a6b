import java.util.ArrayList;
import java.util.Arrays;
import java.util.HashMap;
import java.util.List;
import java.util.Map;
import java.util.TreeSet;
import java.util.regex.Matcher;
import java.util.regex.Pattern;

/**
 * Holds CubeBodies against a second reading of the document, written as literally as can be and with the
 * Java library: each body by itself, all small set-ups, then long mixed runs, wrong numbers among them.
 */
public final class ModelTest {
    private static final long NO = Long.MIN_VALUE;
    private static int wrong = 0;
    private static long calls = 0;

    // ---- the second reading: what is true of a set of corners

    private static final String[] ORDERS = {"xyz", "xzy", "yxz", "yzx", "zxy", "zyx"};

    private static int carry(int move, int corner) {
        Map<Character, Integer> old = new HashMap<>();
        old.put('x', corner % 2);
        old.put('y', corner / 2 % 2);
        old.put('z', corner / 4 % 2);
        String order = ORDERS[move / 8];
        int changes = move % 8;
        int x = old.get(order.charAt(0));
        int y = old.get(order.charAt(1));
        int z = old.get(order.charAt(2));
        if (changes % 2 == 1) x = 1 - x;
        if (changes / 2 % 2 == 1) y = 1 - y;
        if (changes / 4 % 2 == 1) z = 1 - z;
        return x + 2 * y + 4 * z;
    }

    private static List<Integer> corners(int code) {
        List<Integer> corners = new ArrayList<>();
        for (int k = 0; k < 8; k++) {
            if ((code & (1 << k)) != 0) corners.add(k);
        }
        return corners;
    }

    private static int codeOf(Iterable<Integer> corners) {
        int code = 0;
        for (int k : corners) code |= 1 << k;
        return code;
    }

    private static int[][] weights() {
        List<int[]> all = new ArrayList<>();
        for (int a = -3; a <= 3; a++)
            for (int b = -3; b <= 3; b++)
                for (int c = -3; c <= 3; c++)
                    if (a != 0 || b != 0 || c != 0) all.add(new int[] {a, b, c});
        return all.toArray(new int[0][]);
    }

    private static final int[][] WEIGHTS = weights();

    private static int weight(int[] w, int corner) {
        return w[0] * (corner % 2) + w[1] * (corner / 2 % 2) + w[2] * (corner / 4 % 2);
    }

    /** All that the document tells of one body, made once. */
    private static final class Facts {
        final int code;
        final List<Integer> corners;
        final int[] images = new int[48];
        int form, like, still, dimension, edges, sixfold, width;
        final TreeSet<Integer> tops = new TreeSet<>();
        final List<Integer> faces = new ArrayList<>();
        final int[] most = new int[WEIGHTS.length];
        final int[] least = new int[WEIGHTS.length];
        final int[] points = new int[4];
        final boolean[][][][] in = new boolean[4][4][4][4];

        Facts(int code) {
            this.code = code;
            corners = corners(code);
            TreeSet<Integer> unlike = new TreeSet<>();
            for (int m = 0; m < 48; m++) {
                TreeSet<Integer> image = new TreeSet<>();
                for (int k : corners) image.add(carry(m, k));
                images[m] = codeOf(image);
                unlike.add(images[m]);
                if (images[m] == code) still++;
            }
            form = unlike.first();
            like = unlike.size();
            dimension = corners.isEmpty() ? -1 : rank();
            weigh();
            for (int m = 1; m <= 3 && !corners.isEmpty(); m++) fill(m);
            sixfold = corners.isEmpty() ? 0 : points[3] - 3 * points[2] + 3 * points[1] - 1;
        }

        int rank() {
            List<double[]> rows = new ArrayList<>();
            int first = corners.get(0);
            for (int k : corners) {
                rows.add(new double[] {k % 2 - first % 2, k / 2 % 2 - first / 2 % 2, k / 4 % 2 - first / 4 % 2});
            }
            int rank = 0;
            for (int column = 0; column < 3; column++) {
                double[] pivot = null;
                for (double[] row : rows) {
                    if (Math.abs(row[column]) > 1e-9) pivot = row;
                }
                if (pivot == null) continue;
                rank++;
                rows.remove(pivot);
                for (double[] row : rows) {
                    double by = row[column] / pivot[column];
                    for (int i = 0; i < 3; i++) row[i] -= by * pivot[i];
                }
            }
            return rank;
        }

        void weigh() {
            width = corners.isEmpty() ? -5 : 1000;
            for (int i = 0; i < WEIGHTS.length && !corners.isEmpty(); i++) {
                most[i] = -1000;
                least[i] = 1000;
                for (int k : corners) {
                    most[i] = Math.max(most[i], weight(WEIGHTS[i], k));
                    least[i] = Math.min(least[i], weight(WEIGHTS[i], k));
                }
                TreeSet<Integer> top = new TreeSet<>();
                for (int k : corners) {
                    if (weight(WEIGHTS[i], k) == most[i]) top.add(k);
                }
                tops.add(codeOf(top));
                width = Math.min(width, most[i] - least[i]);
            }
            for (int top : tops) {
                int n = Integer.bitCount(top);
                if (n == 2) edges++;
                if (n >= 3 && top != code) faces.add(top);
            }
        }

        void fill(int m) {
            for (int x = 0; x < 4; x++)
                for (int y = 0; y < 4; y++)
                    for (int z = 0; z < 4; z++) {
                        boolean is = true;
                        for (int i = 0; i < WEIGHTS.length; i++) {
                            int[] w = WEIGHTS[i];
                            int v = w[0] * x + w[1] * y + w[2] * z;
                            if (v > m * most[i] || v < m * least[i]) is = false;
                        }
                        in[m][x][y][z] = is;
                        if (is) points[m]++;
                    }
        }

        float centre(int axis) {
            float sum = 0.0f;
            for (int k : corners) sum += (float) (k >> axis & 1);
            return sum / (float) corners.size();
        }

        float fat() {
            return width == 0 ? 0.0f : (float) sixfold / 6.0f / (float) width;
        }

        double spread() {
            double sum = 0.0;
            for (int axis = 0; axis < 3; axis++) {
                sum += ((double) centre(axis) - 0.5) * ((double) centre(axis) - 0.5);
            }
            return sum;
        }
    }

    private static final Facts[] FACTS = new Facts[256];
    private static final List<Integer> FORMS = new ArrayList<>();

    private static void makeFacts() {
        TreeSet<Integer> forms = new TreeSet<>();
        for (int code = 0; code < 256; code++) {
            FACTS[code] = new Facts(code);
            forms.add(FACTS[code].form);
        }
        FORMS.addAll(forms);
    }

    private static int classOf(int code) {
        return FORMS.indexOf(FACTS[code].form);
    }

    // ---- the second reading: an object

    private static final Pattern SET_UP = Pattern.compile("C(?:;C){0,11}"
            .replace("C", "(?:[+-][0-9]{1,8}|m[0-9]{1,2}|[fokui])"), Pattern.DOTALL);

    private static final class Model {
        int body, kept;
        List<int[]> seen = new ArrayList<>(), events = new ArrayList<>(), book = new ArrayList<>();
        int[] imageCodes;
        List<List<int[]>> imageRows;
        String text = "";
        /** byte[], short[], int[], long[], boolean[] or null: the host's own rows. */
        final Object[] tapes = new Object[6];

        int read() {
            String was = text;
            text = "";
            for (int i = 1; i <= was.length(); i++) {
                Matcher m = SET_UP.matcher(was.substring(0, i));
                if (!m.matches() && !m.hitEnd()) return -10 - (i - 1);
            }
            if (!SET_UP.matcher(was).matches()) return -10 - was.length();
            int done = 0;
            for (String clause : was.split(";")) if (clause(clause)) done++;
            return done;
        }

        boolean clause(String clause) {
            String rest = clause.substring(1);
            switch (clause.charAt(0)) {
                case '+':
                case '-':
                    if (rest.contains("8") || rest.contains("9")) return false;
                    for (char digit : rest.toCharArray()) {
                        int bit = 1 << (digit - '0');
                        body = clause.charAt(0) == '+' ? body | bit : body & (255 - bit);
                    }
                    return true;
                case 'm':
                    if (Integer.parseInt(rest) > 47) return false;
                    body = FACTS[body].images[Integer.parseInt(rest)];
                    return true;
                case 'f': body = FACTS[body].form; return true;
                case 'o': body = 255 - body; return true;
                case 'k': kept = body; return true;
                case 'u': body |= kept; return true;
                default: body &= kept; return true;
            }
        }

        int told(int what) {
            Facts f = FACTS[body];
            int far = 100;
            for (int image : f.images) far = Math.min(far, Integer.bitCount(image ^ kept));
            int[] all = {body, kept, f.corners.size(), f.form, classOf(body), f.like, f.still, far,
                f.faces.size(), f.edges, f.dimension + 1, f.sixfold, f.width};
            return what < 0 || what >= all.length ? -1 : all[what];
        }

        int weighs(int a, int b, int c, int what) {
            for (int i = 0; i < WEIGHTS.length; i++) {
                if (!Arrays.equals(WEIGHTS[i], new int[] {a, b, c})) continue;
                if (what < 0 || what > 2) return -1;
                if (body == 0) return -3;
                if (what == 0) return FACTS[body].most[i] + 100;
                if (what == 1) return FACTS[body].least[i] + 100;
                int code = 0;
                for (int k : FACTS[body].corners) {
                    if (weight(WEIGHTS[i], k) == FACTS[body].most[i]) code += 1 << k;
                }
                return code;
            }
            return -2;
        }

        int edge(int one, int other) {
            if (one < 0 || one > 7 || other < 0 || other > 7) return -1;
            List<Integer> corners = FACTS[body].corners;
            if (!corners.contains(one) || !corners.contains(other) || one == other) return -5;
            return FACTS[body].tops.contains((1 << one) + (1 << other)) ? 1 : 0;
        }

        int floats(int what) {
            if (what < 0 || what > 3) return -1;
            if (body == 0) return -3;
            return Float.floatToIntBits(what == 3 ? FACTS[body].fat() : FACTS[body].centre(what));
        }

        int fits() {
            int bits = 0;
            for (int k = 0; k < 8; k++) {
                Facts f = FACTS[FACTS[body].corners.contains(k) ? body - (1 << k) : body + (1 << k)];
                boolean all = true;
                for (int[] row : seen) {
                    int[] is = {f.corners.size(), f.sixfold, f.faces.size(), classOf(f.code)};
                    if (is[row[0]] != row[1]) all = false;
                }
                if (all) bits += 1 << k;
            }
            return bits;
        }

        long fraction(int above, int part) {
            for (int by = 48; by > 1; by--) {
                if (above % by == 0 && 48 % by == 0) return part == 0 ? above / by : 48 / by;
            }
            return part == 0 ? above : 48;
        }

        long odds(int corner, int part) {
            if (corner < 0 || corner > 7 || part < 0 || part > 1) return NO;
            int above = 0;
            for (int image : FACTS[body].images) if ((image >> corner & 1) == 1) above++;
            return fraction(above, part);
        }

        long mean(int part) {
            if (part < 0 || part > 1) return NO;
            int above = 0;
            for (int image : FACTS[body].images) above += Integer.bitCount(image & kept);
            return fraction(above, part);
        }

        int add(List<int[]> rows, int what, int n, int limit) {
            if (rows.size() == limit) return -4;
            rows.add(new int[] {what, n});
            return rows.size();
        }

        int clear(List<int[]> rows) {
            rows.clear();
            return 0;
        }

        int see(int what, int n) {
            if (what == -1) return clear(seen);
            if (what < 0 || what > 3) return -1;
            return n < 0 || n > 99 ? -2 : add(seen, what, n, 4);
        }

        int event(int what, int n) {
            if (what == -1) return clear(events);
            if (what < 0 || what > 2) return -1;
            if (what == 0 && (n < 0 || n > 7)) return -1;
            if (what == 1 && (n < 0 || n > 47)) return -1;
            if (what == 2 && n != 0) return -2;
            return add(events, what, n, 8);
        }

        int after(int what) {
            int code = body;
            for (int[] row : events) {
                if (row[0] == 0) code ^= 1 << row[1];
                if (row[0] == 1) code = FACTS[code].images[row[1]];
                if (row[0] == 2) code = 255 - code;
            }
            return what == 0 ? code : what == 1 ? FACTS[code].sixfold : what == 2 ? classOf(code) : -1;
        }

        int book(int corner, int is) {
            if (corner == -1) return clear(book);
            if (corner < 0 || corner > 7) return -1;
            return is != 0 && is != 1 ? -2 : add(book, corner, is, 8);
        }

        int looked() {
            for (int i = 0; i < book.size(); i++) {
                boolean is = FACTS[body].corners.contains(book.get(i)[0]);
                if (is != (book.get(i)[1] == 1)) return i;
            }
            return -5;
        }

        int judge(int tape, int i) {
            if (tape < 0 || tape > 5) return -1;
            if (tapes[tape] == null) return 100;
            if (!(tapes[tape] instanceof boolean[])) return -12;
            boolean[] row = (boolean[]) tapes[tape];
            if (i < 0) return 100;
            for (int k = 0; k < 8; k++) {
                if ((long) i + k >= row.length) return 100 + k;
                if (row[i + k] != FACTS[body].corners.contains(k)) return k;
            }
            return -5;
        }

        List<int[]> copy(List<int[]> rows) {
            return new ArrayList<>(rows);
        }

        int image() {
            imageCodes = new int[] {body, kept};
            imageRows = List.of(copy(seen), copy(events), copy(book));
            return body;
        }

        int undo() {
            if (imageCodes == null) return -3;
            body = imageCodes[0];
            kept = imageCodes[1];
            seen = copy(imageRows.get(0));
            events = copy(imageRows.get(1));
            book = copy(imageRows.get(2));
            return body;
        }

        int tape(int tape, int sort, int n) {
            if (tape < 0 || tape > 5) return -1;
            if (sort == -1) {
                tapes[tape] = null;
                return 1;
            }
            if (sort < 0 || sort > 4 || n > 60) return -2;
            if (n < 0) return -14;
            tapes[tape] = sort == 0 ? new byte[n] : sort == 1 ? new short[n] : sort == 2 ? new int[n]
                    : sort == 3 ? new long[n] : (Object) new boolean[n];
            return 1;
        }

        int item(int tape, int i, long v) {
            if (tape < 0 || tape > 5) return -1;
            Object row = tapes[tape];
            if (row == null) return -11;
            if (i < 0 || i >= java.lang.reflect.Array.getLength(row)) return -13;
            if (row instanceof byte[]) ((byte[]) row)[i] = (byte) v;
            if (row instanceof short[]) ((short[]) row)[i] = (short) v;
            if (row instanceof int[]) ((int[]) row)[i] = (int) v;
            if (row instanceof long[]) ((long[]) row)[i] = v;
            if (row instanceof boolean[]) ((boolean[]) row)[i] = v != 0;
            return 1;
        }

        long peek(int tape, int i) {
            if (tape < 0 || tape > 5 || tapes[tape] == null) return NO;
            Object row = tapes[tape];
            if (i < 0 || i >= java.lang.reflect.Array.getLength(row)) return NO;
            if (row instanceof boolean[]) return ((boolean[]) row)[i] ? 1 : 0;
            return java.lang.reflect.Array.getLong(row, i);
        }

        int shift(int tape, int i, int other, int j, int n) {
            if (tape < 0 || tape > 5 || other < 0 || other > 5) return -1;
            if (tapes[tape] == null || tapes[other] == null) return -11;
            if (tapes[tape].getClass() != tapes[other].getClass()) return -12;
            try {
                System.arraycopy(tapes[tape], i, tapes[other], j, n);
            } catch (IndexOutOfBoundsException e) {
                return -13;
            }
            return n;
        }

        int setCorner(int corner, int is) {
            if (corner < 0 || corner > 7) return -1;
            if (is != 0 && is != 1) return -2;
            int was = FACTS[body].corners.contains(corner) ? 1 : 0;
            body += (is - was) * (1 << corner);
            return was;
        }

        int setCode(int code) {
            if (code < 0 || code > 255) return -2;
            int was = body;
            body = code;
            return was;
        }

        int becomes(int how) {
            if (how < 0 || how > 3) return -1;
            return body = how == 0 ? FACTS[body].form : how == 1 ? 255 - body : how == 2 ? body | kept : body & kept;
        }

        int feed(int sign) {
            if (sign < 0 || sign > 127) return -2;
            if (text.length() == 100) return -4;
            text += (char) sign;
            return text.length();
        }

        int classes(int k) {
            if (k < 0 || k > 8) return -2;
            int n = 0;
            for (int form : FORMS) if (FACTS[form].corners.size() == k) n++;
            return n;
        }

        int points(int m) {
            return m < 1 || m > 3 ? -2 : body == 0 ? -3 : FACTS[body].points[m];
        }

        int holds(int m, int x, int y, int z) {
            if (m < 1 || m > 3 || x < 0 || x > 3 || y < 0 || y > 3 || z < 0 || z > 3) return -2;
            return body == 0 ? -3 : FACTS[body].in[m][x][y][z] ? 1 : 0;
        }

        int face(int i) {
            return i < 0 ? -1 : i < FACTS[body].faces.size() ? FACTS[body].faces.get(i) : -5;
        }

        int count(int what) {
            int[] all = {seen.size(), events.size(), book.size(), text.length()};
            return what < 0 || what > 3 ? -2 : all[what];
        }
    }

    // ---- both, call by call

    private static final String[] NAMES = {"corner", "code", "move", "becomes", "keep", "feed", "read", "told",
        "carried", "imaged", "form", "classes", "weighs", "face", "edge", "points", "holds", "floats", "spread",
        "see", "fits", "odds", "mean", "event", "after", "book", "looked", "judge", "image", "undo", "count",
        "tape", "item", "peek", "shift"};

    private static long real(CubeBodies x, int call, int a, int b, int c, int d, int e, long v) {
        switch (NAMES[call]) {
            case "corner": return x.corner(a, b);
            case "code": return x.code(a);
            case "move": return x.move(a);
            case "becomes": return x.becomes(a);
            case "keep": return x.keep();
            case "feed": return x.feed(a);
            case "read": return x.read();
            case "told": return x.told(a);
            case "carried": return x.carried(a, b);
            case "imaged": return x.imaged(a);
            case "form": return x.form(a);
            case "classes": return x.classes(a);
            case "weighs": return x.weighs(a, b, c, d);
            case "face": return x.face(a);
            case "edge": return x.edge(a, b);
            case "points": return x.points(a);
            case "holds": return x.holds(a, b, c, d);
            case "floats": return x.floats(a);
            case "spread": return x.spread();
            case "see": return x.see(a, b);
            case "fits": return x.fits();
            case "odds": return x.odds(a, b);
            case "mean": return x.mean(a);
            case "event": return x.event(a, b);
            case "after": return x.after(a);
            case "book": return x.book(a, b);
            case "looked": return x.looked();
            case "judge": return x.judge(a, b);
            case "image": return x.image();
            case "undo": return x.undo();
            case "count": return x.count(a);
            case "tape": return x.tape(a, b, c);
            case "item": return x.item(a, b, v);
            case "peek": return x.peek(a, b);
            default: return x.shift(a, b, c, d, e);
        }
    }

    private static long model(Model x, int call, int a, int b, int c, int d, int e, long v) {
        switch (NAMES[call]) {
            case "corner": return x.setCorner(a, b);
            case "code": return x.setCode(a);
            case "move": return a < 0 || a > 47 ? -1 : (x.body = FACTS[x.body].images[a]);
            case "becomes": return x.becomes(a);
            case "keep": return x.kept = x.body;
            case "feed": return x.feed(a);
            case "read": return x.read();
            case "told": return x.told(a);
            case "carried": return a < 0 || a > 47 || b < 0 || b > 7 ? -1 : carry(a, b);
            case "imaged": return a < 0 || a > 47 ? -1 : FACTS[x.body].images[a];
            case "form": return a < 0 ? -1 : a < FORMS.size() ? FORMS.get(a) : -5;
            case "classes": return x.classes(a);
            case "weighs": return x.weighs(a, b, c, d);
            case "face": return x.face(a);
            case "edge": return x.edge(a, b);
            case "points": return x.points(a);
            case "holds": return x.holds(a, b, c, d);
            case "floats": return x.floats(a);
            case "spread": return x.body == 0 ? NO : Double.doubleToLongBits(FACTS[x.body].spread());
            case "see": return x.see(a, b);
            case "fits": return x.fits();
            case "odds": return x.odds(a, b);
            case "mean": return x.mean(a);
            case "event": return x.event(a, b);
            case "after": return x.after(a);
            case "book": return x.book(a, b);
            case "looked": return x.looked();
            case "judge": return x.judge(a, b);
            case "image": return x.image();
            case "undo": return x.undo();
            case "count": return x.count(a);
            case "tape": return x.tape(a, b, c);
            case "item": return x.item(a, b, v);
            case "peek": return x.peek(a, b);
            default: return x.shift(a, b, c, d, e);
        }
    }

    /** What is behind an object's last call is free: a run ends with it. */
    private static final int LAST_CALL = 512;
    private static final int LONGEST_ROUND = 150;

    private static final class Pair {
        final CubeBodies real = new CubeBodies();
        final Model model = new Model();
        final List<String> log = new ArrayList<>();

        void both(String name, int... n) {
            int[] a = Arrays.copyOf(n, 5);
            bothLong(name, a, a[2]);
        }

        int left() {
            return LAST_CALL - log.size();
        }

        void bothLong(String name, int[] a, long v) {
            if (left() == 0) return;
            int call = Arrays.asList(NAMES).indexOf(name);
            long want = model(model, call, a[0], a[1], a[2], a[3], a[4], v);
            String row = name + Arrays.toString(a) + " v " + v;
            long got;
            try {
                got = real(real, call, a[0], a[1], a[2], a[3], a[4], v);
            } catch (RuntimeException e) {
                got = want + 1;
                row += " threw " + e;
            }
            calls++;
            log.add(row + " -> " + got);
            if (got != want && wrong++ < 10) {
                System.out.println("after " + log.subList(Math.max(0, log.size() - 12), log.size() - 1));
                System.out.println("  " + row + " answered " + got + ", due is " + want);
            }
        }

        void state() {
            both("told", 0);
            both("told", 1);
            for (int what = 0; what < 4; what++) both("count", what);
        }
    }

    // ---- each body by itself

    /** A fresh object for each group of calls: the document promises 512 to each. */
    private static Pair of(int code) {
        Pair p = new Pair();
        p.both("code", code);
        return p;
    }

    private static void everyBody() {
        for (int code = 0; code < 256; code++) {
            Pair p = of(code);
            for (int what = 0; what < 13; what++) p.both("told", what);
            for (int move = 0; move < 48; move++) p.both("imaged", move);
            for (int i = 0; i < 10; i++) p.both("face", i);
            for (int one = 0; one < 8; one++)
                for (int other = 0; other < 8; other++) p.both("edge", one, other);
            for (int what = 0; what < 4; what++) p.both("floats", what);
            p.both("spread");
            for (int corner = 0; corner < 8; corner++) {
                p.both("odds", corner, 0);
                p.both("odds", corner, 1);
            }
            p = of(code);
            for (int m = 1; m < 4; m++) {
                p.both("points", m);
                for (int place = 0; place < 64; place++) p.both("holds", m, place / 16, place / 4 % 4, place % 4);
            }
            for (int what = 0; what < 3; what++) {
                p = of(code);
                for (int[] w : WEIGHTS) p.both("weighs", w[0], w[1], w[2], what);
            }
            p = of(code);
            for (int what = 0; what < 4; what++)
                for (int n = 0; n < 22; n++) {
                    p.both("see", what, n);
                    p.both("fits");
                    p.both("see", -1, 0);
                }
        }
    }

    private static void everyTwoBodies() {
        for (int both = 0; both < 65536; both++) {
            Pair p = of(both >> 8);
            p.both("keep");
            p.both("code", both & 255);
            p.both("told", 7);
            p.both("mean", 0);
            p.both("mean", 1);
            p.both("becomes", 2);
            p.both("code", both & 255);
            p.both("becomes", 3);
        }
    }

    // ---- set-ups

    private static void feedAll(Pair p, String text) {
        for (char sign : text.toCharArray()) p.both("feed", sign);
        p.both("read");
        p.state();
    }

    /** All texts of up to four signs out of these: each kind of CLAUSE, digits in and out, and a blank. */
    private static void smallTexts() {
        String signs = "+-m05894;fokui x";
        for (int length = 0; length <= 4; length++) {
            int[] at = new int[length];
            boolean more = true;
            while (more) {
                StringBuilder text = new StringBuilder();
                for (int i : at) text.append(signs.charAt(i));
                Pair p = new Pair();
                p.both("code", 0x2d);
                p.both("keep");
                p.both("code", 0x53);
                feedAll(p, text.toString());
                more = false;
                for (int i = length - 1; i >= 0 && !more; i--) {
                    at[i] = (at[i] + 1) % signs.length();
                    more = at[i] != 0;
                }
            }
        }
    }

    private static void longTexts() {
        for (String clause : new String[] {"f", "m7", "m47", "+0", "-12345670", "+9"}) {
            StringBuilder text = new StringBuilder(clause);
            for (int n = 1; n < 16; n++) {
                feedAll(new Pair(), text.toString());
                feedAll(new Pair(), text + ";");
                text.append(';').append(clause);
            }
        }
    }

    // ---- long mixed runs

    private static long seed = 20261118L;

    private static int below(int n) {
        seed = seed * 6364136223846793005L + 1442695040888963407L;
        return (int) ((seed >>> 33) % n);
    }

    private static final int[] ODD = {-1, -2, -5, 100, 256, 1000, 61, Integer.MAX_VALUE, Integer.MIN_VALUE,
        Integer.MAX_VALUE - 3, 1 << 16, 32, 33, 64};

    /** Mostly a number of low .. high; at times one beside it, or far from it. */
    private static int number(int low, int high) {
        int how = below(24);
        if (how == 0) return low - 1;
        if (how == 1) return high + 1;
        if (how == 2) return ODD[below(ODD.length)];
        return low + below(high - low + 1);
    }

    private static void randomText(Pair p) {
        int clauses = 1 + below(below(4) == 0 ? 14 : 5);
        StringBuilder text = new StringBuilder();
        for (int i = 0; i < clauses; i++) {
            text.append(i == 0 ? "" : ";").append("+-mfokui".charAt(below(8)));
            if ("+-m".indexOf(text.charAt(text.length() - 1)) >= 0) {
                int digits = 1 + below(text.charAt(text.length() - 1) == 'm' ? 2 : 8);
                for (int d = 0; d < digits; d++) text.append((char) ('0' + below(below(9) == 0 ? 10 : 8)));
            }
        }
        if (below(4) == 0) text.setCharAt(below(text.length()), ";+m0 8f9/:".charAt(below(10)));
        for (char sign : text.toString().toCharArray()) p.both("feed", sign);
        if (below(8) != 0) p.both("read");
    }

    /** A call of this name, its numbers mostly as told. */
    private static void mixedCall(Pair p, String name) {
        int[] a = new int[5];
        long v = 0;
        switch (name) {
            case "corner": a[0] = number(0, 7); a[1] = number(0, 1); break;
            case "code": a[0] = number(0, 255); break;
            case "move": case "imaged": a[0] = number(0, 47); break;
            case "becomes": case "count": case "floats": a[0] = number(0, 3); break;
            case "feed": a[0] = number(0, 127); break;
            case "told": a[0] = number(0, 12); break;
            case "carried": a[0] = number(0, 47); a[1] = number(0, 7); break;
            case "form": a[0] = number(0, 22); break;
            case "classes": a[0] = number(0, 8); break;
            case "weighs":
                for (int i = 0; i < 3; i++) a[i] = number(-3, 3);
                a[3] = number(0, 2);
                break;
            case "face": a[0] = number(0, 8); break;
            case "edge": a[0] = number(0, 7); a[1] = number(0, 7); break;
            case "points": a[0] = number(1, 3); break;
            case "holds":
                a[0] = number(1, 3);
                for (int i = 1; i < 4; i++) a[i] = number(0, 3);
                break;
            case "see": a[0] = number(0, 3); a[1] = below(3) == 0 ? number(0, 99) : number(0, 8); break;
            case "odds": a[0] = number(0, 7); a[1] = number(0, 1); break;
            case "mean": a[0] = number(0, 1); break;
            case "event": a[0] = number(0, 2); a[1] = a[0] == 0 ? number(0, 7) : a[0] == 1 ? number(0, 47)
                    : below(4) == 0 ? number(0, 1) : 0; break;
            case "after": a[0] = number(0, 2); break;
            case "book": a[0] = number(0, 7); a[1] = number(0, 1); break;
            case "judge": a[0] = number(0, 5); a[1] = number(0, 8); break;
            case "tape": a[0] = number(0, 5); a[1] = below(2) == 0 ? 4 : number(0, 4);
                a[2] = below(2) == 0 ? number(0, 60) : number(0, 12); break;
            case "item": a[0] = number(0, 5); a[1] = number(0, 12); v = (long) below(1 << 30) << below(40);
                if (below(2) == 0) v = -v;
                if (below(4) == 0) v = below(3);
                break;
            case "peek": a[0] = number(0, 5); a[1] = number(0, 12); break;
            case "shift": a[0] = number(0, 5); a[1] = number(0, 6); a[2] = number(0, 5); a[3] = number(0, 6);
                a[4] = number(0, 6); break;
            default: break;
        }
        p.bothLong(name, a, v);
    }

    /** Makes a TAPE tell THE BODY, but for one place at times, so that judge() goes far into it. */
    private static void tellBody(Pair p) {
        int tape = below(6);
        int from = below(4);
        p.both("tape", tape, 4, from + 5 + below(6));
        for (int k = 0; k < 8; k++) p.both("item", tape, from + k, p.model.body >> k & 1);
        if (below(3) == 0) p.both("item", tape, from + below(8), below(2));
        p.both("judge", tape, from);
    }

    private static void mix(Pair p, int calls) {
        while (p.log.size() < calls) {
            int how = below(60);
            if (how == 0) randomText(p);
            else if (how == 1) tellBody(p);
            else mixedCall(p, NAMES[below(NAMES.length)]);
        }
    }

    /** All that can be asked, then what the text and the image still hide: some 120 calls. */
    private static void askAll(Pair p) {
        for (int what = 0; what < 13; what++) p.both("told", what);
        for (int what = 0; what < 4; what++) p.both("floats", what);
        p.both("spread");
        for (int part = 0; part < 2; part++) p.both("mean", part);
        for (int corner = 0; corner < 8; corner++) p.both("odds", corner, corner & 1);
        for (int tape = 0; tape < 6; tape++) {
            for (int i = 0; i < 8; i++) p.both("peek", tape, i);
            p.both("judge", tape, 0);
        }
        askRows(p);
        p.both("read");
        p.state();
        p.both("undo");
        p.state();
        askRows(p);
    }

    private static void askRows(Pair p) {
        for (int what = 0; what < 4; what++) p.both("count", what);
        for (int what = 0; what < 3; what++) p.both("after", what);
        p.both("looked");
        p.both("fits");
        // one row that is otherwise hides those behind it: by the other CORNERS these may show themselves
        p.both("becomes", 1);
        p.both("looked");
        p.both("fits");
    }

    private static void mixedRuns(int runs) {
        for (int run = 0; run < runs; run++) {
            Pair p = new Pair();
            mix(p, run % 2 == 0 ? LAST_CALL : 380);
            askAll(p);
            mix(p, LAST_CALL);
            callsDue(p, LAST_CALL);
        }
    }

    /** Each call of the face as an object's last one, behind a long mixed run, its numbers also wrong. */
    private static void lastCalls(int runs) {
        for (String name : NAMES) {
            for (int run = 0; run < runs; run++) {
                Pair p = new Pair();
                // one round of mix() may be a whole text: the last ones are single calls
                mix(p, LAST_CALL - LONGEST_ROUND);
                while (p.left() > 1) mixedCall(p, NAMES[below(NAMES.length)]);
                callsDue(p, LAST_CALL - 1);
                mixedCall(p, name);
                callsDue(p, LAST_CALL);
            }
        }
    }

    private static void callsDue(Pair p, int calls) {
        if (p.log.size() != calls && wrong++ < 10) {
            System.out.println("a run has " + p.log.size() + " calls, and not " + calls);
        }
    }

    public static void main(String[] args) {
        makeFacts();
        everyBody();
        everyTwoBodies();
        smallTexts();
        longTexts();
        mixedRuns(3000);
        lastCalls(30);
        System.out.println(calls + " calls, " + (wrong == 0 ? "all as due" : wrong + " not as due"));
        if (wrong != 0) System.exit(1);
    }
}

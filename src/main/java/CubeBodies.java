/** Bodies of corners of a cube, as ../shared/DOC.md promises them; README.md tells how to use it. */
public final class CubeBodies {
    public static final int NONE = -1, BAD = -2, STATE = -3, FULL = -4;
    public static final long NO = Long.MIN_VALUE;

    private static final int NOTHING = -11, CAST = -12, PLACE = -13, SIZE = -14;
    private static final int NOT_THERE = -5;
    private static final int ROW_ENDED = 100, WEIGHT_SHIFT = 100, FAULT_BASE = -10;
    private static final int CORNERS = 8, MOVES = 48, CODES = 256, ALL_CORNERS = CODES - 1;
    private static final int MOST_SEEN = 4, MOST_EVENTS = 8, MOST_BOOKED = 8;
    private static final int TAPES = 6;

    private final Held now = new Held();
    private final Held then = new Held();
    private boolean hasImage = false;
    private final Text text = new Text();
    private final Shape shape = new Shape();
    private final Tape[] tapes = new Tape[TAPES];

    public CubeBodies() {
        for (int i = 0; i < TAPES; i++) {
            tapes[i] = new Tape();
        }
    }

    // ---- bodies

    public int corner(int corner, int is) {
        if (!isCorner(corner)) {
            return NONE;
        }
        if (!isBit(is)) {
            return BAD;
        }
        int was = bitOf(now.body, corner);
        now.body = is == 1 ? now.body | 1 << corner : now.body & ~(1 << corner);
        return was;
    }

    public int code(int code) {
        if (code < 0 || code >= CODES) {
            return BAD;
        }
        int was = now.body;
        now.body = code;
        return was;
    }

    public int move(int move) {
        if (!isMove(move)) {
            return NONE;
        }
        now.body = Cube.imageBy(move, now.body);
        return now.body;
    }

    public int becomes(int how) {
        if (how < Held.FORM || how > Held.BOTH) {
            return NONE;
        }
        now.change(how);
        return now.body;
    }

    public int keep() {
        now.kept = now.body;
        return now.kept;
    }

    public int feed(int sign) {
        if (sign < 0 || sign > 127) {
            return BAD;
        }
        return text.append(sign);
    }

    public int read() {
        int fault = text.firstFault();
        int answer = fault == Text.NO_FAULT ? text.perform(now) : FAULT_BASE - fault;
        text.size = 0;
        return answer;
    }

    // ---- what is told

    public int told(int what) {
        switch (what) {
            case 0: return now.body;
            case 1: return now.kept;
            case 2: return Integer.bitCount(now.body);
            case 3: return Cube.formOf(now.body);
            case 4: return Cube.classOf(now.body);
            case 5: return Cube.unlikeImages(now.body);
            case 6: return Cube.stillMoves(now.body);
            case 7: return Cube.distance(now.body, now.kept);
            case 8: return shape.faceCount(now.body);
            case 9: return shape.edgeCount(now.body);
            case 10: return Cube.dimension(now.body) + 1;
            case 11: return shape.sixfold(now.body);
            case 12: return shape.width(now.body);
            default: return NONE;
        }
    }

    public int carried(int move, int corner) {
        return isMove(move) && isCorner(corner) ? Cube.cornerBy(move, corner) : NONE;
    }

    public int imaged(int move) {
        return isMove(move) ? Cube.imageBy(move, now.body) : NONE;
    }

    public int form(int i) {
        if (i < 0) {
            return NONE;
        }
        return i < Cube.FORMS.length ? Cube.FORMS[i] : NOT_THERE;
    }

    public int classes(int k) {
        return k < 0 || k > CORNERS ? BAD : Cube.classesWith(k);
    }

    // ---- weights

    public int weighs(int a, int b, int c, int what) {
        if (!isWeight(a) || !isWeight(b) || !isWeight(c) || (a == 0 && b == 0 && c == 0)) {
            return BAD;
        }
        if (what < 0 || what > 2) {
            return NONE;
        }
        if (now.body == 0) {
            return STATE;
        }
        int most = Shape.mostBy(now.body, a, b, c);
        if (what == 0) {
            return most + WEIGHT_SHIFT;
        }
        // what weighs least by WEIGHTS weighs most by the same ones, each less than nought
        return what == 1 ? WEIGHT_SHIFT - Shape.mostBy(now.body, -a, -b, -c)
                : Shape.thoseThatWeigh(now.body, a, b, c, most);
    }

    public int face(int i) {
        return i < 0 ? NONE : shape.faceAt(now.body, i);
    }

    public int edge(int one, int other) {
        if (!isCorner(one) || !isCorner(other)) {
            return NONE;
        }
        if (one == other || bitOf(now.body, one) == 0 || bitOf(now.body, other) == 0) {
            return NOT_THERE;
        }
        return shape.isEdge(now.body, 1 << one | 1 << other) ? 1 : 0;
    }

    // ---- points, floats

    public int points(int m) {
        if (!isTimes(m)) {
            return BAD;
        }
        return now.body == 0 ? STATE : shape.pointsIn(now.body, m);
    }

    public int holds(int m, int x, int y, int z) {
        if (!isTimes(m) || !isPlace(x) || !isPlace(y) || !isPlace(z)) {
            return BAD;
        }
        if (now.body == 0) {
            return STATE;
        }
        return shape.isIn(now.body, m, x, y, z) ? 1 : 0;
    }

    public int floats(int what) {
        if (what < 0 || what > 3) {
            return NONE;
        }
        if (now.body == 0) {
            return STATE;
        }
        return Bits.ofFloat(what == 3 ? shape.fat(now.body) : Cube.centre(now.body, what));
    }

    public long spread() {
        return now.body == 0 ? NO : Bits.ofDouble(Cube.spreadOf(now.body));
    }

    // ---- seen, odds

    public int see(int what, int n) {
        if (what == -1) {
            return now.seen.empty();
        }
        if (what < 0 || what > 3) {
            return NONE;
        }
        if (n < 0 || n > 99) {
            return BAD;
        }
        return now.seen.append(what, n, MOST_SEEN);
    }

    public int fits() {
        int fitting = 0;
        for (int corner = 0; corner < CORNERS; corner++) {
            if (allSeenIn(now.body ^ 1 << corner)) {
                fitting |= 1 << corner;
            }
        }
        return fitting;
    }

    private boolean allSeenIn(int body) {
        for (int row = 0; row < now.seen.size; row++) {
            if (sightOf(body, now.seen.whatAt(row)) != now.seen.numberAt(row)) {
                return false;
            }
        }
        return true;
    }

    private int sightOf(int body, int what) {
        switch (what) {
            case 0: return Integer.bitCount(body);
            case 1: return shape.sixfold(body);
            case 2: return shape.faceCount(body);
            default: return Cube.classOf(body);
        }
    }

    public long odds(int corner, int part) {
        if (!isCorner(corner) || !isBit(part)) {
            return NO;
        }
        // over all MOVES, the IMAGE and this one CORNER have it in common or nothing
        return lowestOfMoves(Cube.commonOverMoves(now.body, 1 << corner), part);
    }

    public long mean(int part) {
        return isBit(part) ? lowestOfMoves(Cube.commonOverMoves(now.body, now.kept), part) : NO;
    }

    private static long lowestOfMoves(int above, int part) {
        int common = commonDivisor(above, MOVES);
        if (common < 1) {
            return NO;
        }
        return part == 0 ? above / common : MOVES / common;
    }

    private static int commonDivisor(int a, int b) {
        int one = a;
        int other = b;
        for (int step = 0; step < 100 && other != 0; step++) {
            int rest = one % other;
            one = other;
            other = rest;
        }
        return one;
    }

    // ---- events, books

    public int event(int what, int n) {
        switch (what) {
            case -1: return now.events.empty();
            case 0: return isCorner(n) ? now.events.append(what, n, MOST_EVENTS) : NONE;
            case 1: return isMove(n) ? now.events.append(what, n, MOST_EVENTS) : NONE;
            case 2: return n == 0 ? now.events.append(what, n, MOST_EVENTS) : BAD;
            default: return NONE;
        }
    }

    public int after(int what) {
        switch (what) {
            case 0: return bodyAfterEvents();
            case 1: return shape.sixfold(bodyAfterEvents());
            case 2: return Cube.classOf(bodyAfterEvents());
            default: return NONE;
        }
    }

    private int bodyAfterEvents() {
        int body = now.body;
        for (int row = 0; row < now.events.size; row++) {
            int n = now.events.numberAt(row);
            switch (now.events.whatAt(row)) {
                case 0: body ^= 1 << n; break;
                case 1: body = Cube.imageBy(n, body); break;
                default: body ^= ALL_CORNERS; break;
            }
        }
        return body;
    }

    public int book(int corner, int is) {
        if (corner == -1) {
            return now.book.empty();
        }
        if (!isCorner(corner)) {
            return NONE;
        }
        return isBit(is) ? now.book.append(corner, is, MOST_BOOKED) : BAD;
    }

    public int looked() {
        for (int row = 0; row < now.book.size; row++) {
            if (bitOf(now.body, now.book.whatAt(row)) != now.book.numberAt(row)) {
                return row;
            }
        }
        return NOT_THERE;
    }

    // ---- judging, the image, tapes

    public int judge(int tape, int i) {
        if (!isTape(tape)) {
            return NONE;
        }
        Tape row = tapes[tape];
        if (!row.holdsRow()) {
            return ROW_ENDED;
        }
        if (row.sort != Tape.BOOLEANS) {
            return CAST;
        }
        for (int corner = 0; corner < CORNERS; corner++) {
            // the first place is tested before any sum is made of it: no sum wraps round
            if (!row.hasPlace(i) || !row.hasPlace(i + corner)) {
                return ROW_ENDED + corner;
            }
            if (row.itemAt(i + corner) != bitOf(now.body, corner)) {
                return corner;
            }
        }
        return NOT_THERE;
    }

    public int image() {
        then.copyFrom(now);
        hasImage = true;
        return now.body;
    }

    public int undo() {
        if (!hasImage) {
            return STATE;
        }
        now.copyFrom(then);
        return now.body;
    }

    public int count(int what) {
        switch (what) {
            case 0: return now.seen.size;
            case 1: return now.events.size;
            case 2: return now.book.size;
            case 3: return text.size;
            default: return BAD;
        }
    }

    public int tape(int tape, int sort, int n) {
        if (!isTape(tape)) {
            return NONE;
        }
        if (sort == Tape.NO_ROW) {
            tapes[tape].becomeRow(Tape.NO_ROW, 0);
            return 1;
        }
        if (sort < Tape.BYTES || sort > Tape.BOOLEANS || n > Tape.LONGEST) {
            return BAD;
        }
        if (n < 0) {
            return SIZE;
        }
        tapes[tape].becomeRow(sort, n);
        return 1;
    }

    public int item(int tape, int i, long v) {
        if (!isTape(tape)) {
            return NONE;
        }
        Tape row = tapes[tape];
        if (!row.holdsRow()) {
            return NOTHING;
        }
        if (!row.hasPlace(i)) {
            return PLACE;
        }
        row.put(i, v);
        return 1;
    }

    public long peek(int tape, int i) {
        if (!isTape(tape) || !tapes[tape].hasPlace(i)) {
            return NO;
        }
        return tapes[tape].itemAt(i);
    }

    public int shift(int tape, int i, int other, int j, int n) {
        if (!isTape(tape) || !isTape(other)) {
            return NONE;
        }
        Tape from = tapes[tape];
        Tape to = tapes[other];
        if (!from.holdsRow() || !to.holdsRow()) {
            return NOTHING;
        }
        if (from.sort != to.sort) {
            return CAST;
        }
        if (!from.hasRun(i, n) || !to.hasRun(j, n)) {
            return PLACE;
        }
        System.arraycopy(from.items, i, to.items, j, n);
        return n;
    }

    // ---- what numbers may be

    private static boolean isCorner(int number) {
        return number >= 0 && number < CORNERS;
    }

    private static boolean isMove(int number) {
        return number >= 0 && number < MOVES;
    }

    private static boolean isBit(int number) {
        return number == 0 || number == 1;
    }

    private static boolean isWeight(int number) {
        return number >= -3 && number <= 3;
    }

    private static boolean isTimes(int number) {
        return number >= 1 && number <= 3;
    }

    private static boolean isPlace(int number) {
        return number >= 0 && number <= 3;
    }

    private static boolean isTape(int number) {
        return number >= 0 && number < TAPES;
    }

    private static int bitOf(int number, int bit) {
        return number >> bit & 1;
    }

    /** What is true of a body alone: its IMAGES, its FORM and CLASS, its DIMENSION and CENTRE. */
    private static final class Cube {
        /** For each order of x, y, z: which of the old three the new x is, the new y, the new z. */
        private static final int[] ORDERS = {
            0, 1, 2,  0, 2, 1,  1, 0, 2,  1, 2, 0,  2, 0, 1,  2, 1, 0,
        };
        /** Written out since they never change; a test makes them anew from all bodies. */
        private static final int[] FORMS = {
            0, 1, 3, 6, 7, 15, 22, 23, 24, 25, 27, 30, 31, 60, 61, 63, 105, 107, 111, 126, 127, 255,
        };

        private static int cornerBy(int move, int corner) {
            int order = (move >> 3) * 3;
            if (order < 0 || order + 2 >= ORDERS.length) {
                return NONE;
            }
            int x = corner >> ORDERS[order] & 1;
            int y = corner >> ORDERS[order + 1] & 1;
            int z = corner >> ORDERS[order + 2] & 1;
            return (x | y << 1 | z << 2) ^ move & 7;
        }

        private static int imageBy(int move, int body) {
            int image = 0;
            for (int corner = 0; corner < CORNERS; corner++) {
                if (bitOf(body, corner) == 1) {
                    image |= 1 << cornerBy(move, corner);
                }
            }
            return image;
        }

        private static int formOf(int body) {
            int least = body;
            for (int move = 0; move < MOVES; move++) {
                least = Math.min(least, imageBy(move, body));
            }
            return least;
        }

        private static int classOf(int body) {
            int form = formOf(body);
            for (int i = 0; i < FORMS.length; i++) {
                if (FORMS[i] == form) {
                    return i;
                }
            }
            return NONE;
        }

        private static int classesWith(int corners) {
            int classes = 0;
            for (int i = 0; i < FORMS.length; i++) {
                if (Integer.bitCount(FORMS[i]) == corners) {
                    classes++;
                }
            }
            return classes;
        }

        private static int stillMoves(int body) {
            int still = 0;
            for (int move = 0; move < MOVES; move++) {
                if (imageBy(move, body) == body) {
                    still++;
                }
            }
            return still;
        }

        /** The MOVES are a group: each IMAGE is made by just as many of them as leave the body. */
        private static int unlikeImages(int body) {
            int still = stillMoves(body);
            return still == 0 ? MOVES : MOVES / still;
        }

        private static int distance(int body, int kept) {
            int least = CORNERS;
            for (int move = 0; move < MOVES; move++) {
                least = Math.min(least, Integer.bitCount(imageBy(move, body) ^ kept));
            }
            return least;
        }

        private static int commonOverMoves(int body, int other) {
            int common = 0;
            for (int move = 0; move < MOVES; move++) {
                common += Integer.bitCount(imageBy(move, body) & other);
            }
            return common;
        }

        private static int dimension(int body) {
            int corners = Integer.bitCount(body);
            // no three CORNERS of a cube are in one line: only from the fourth on it is open
            if (corners <= 3) {
                return corners - 1;
            }
            int first = leastCorner(body);
            int others = body & ~(1 << first);
            for (int a = 0; a < CORNERS; a++) {
                for (int b = 0; b < a; b++) {
                    for (int c = 0; c < b; c++) {
                        int three = 1 << a | 1 << b | 1 << c;
                        if ((others & three) == three && determinant(first, a, b, c) != 0) {
                            return 3;
                        }
                    }
                }
            }
            return 2;
        }

        private static int leastCorner(int body) {
            int corner = 0;
            while (corner < CORNERS - 1 && bitOf(body, corner) == 0) {
                corner++;
            }
            return corner;
        }

        private static int determinant(int from, int a, int b, int c) {
            return away(from, a, 0) * minor(from, b, c, 1, 2)
                    - away(from, a, 1) * minor(from, b, c, 0, 2)
                    + away(from, a, 2) * minor(from, b, c, 0, 1);
        }

        private static int minor(int from, int b, int c, int axis, int other) {
            return away(from, b, axis) * away(from, c, other) - away(from, b, other) * away(from, c, axis);
        }

        private static int away(int from, int to, int axis) {
            return bitOf(to, axis) - bitOf(from, axis);
        }

        private static float centre(int body, int axis) {
            int corners = Integer.bitCount(body);
            if (corners == 0) {
                return 0.0f;
            }
            float sum = 0.0f;
            for (int corner = 0; corner < CORNERS; corner++) {
                if (bitOf(body, corner) == 1) {
                    sum += (float) bitOf(corner, axis);
                }
            }
            return sum / (float) corners;
        }

        private static double spreadOf(int body) {
            double sum = 0.0;
            for (int axis = 0; axis < 3; axis++) {
                double off = (double) centre(body, axis) - 0.5;
                sum += off * off;
            }
            return sum;
        }
    }

    /**
     * A body measured by all WEIGHTS. It keeps what it found of the body measured last, and POINTS of
     * every body met, since these are dear and are asked for again and again.
     */
    private static final class Shape {
        /**
         * WEIGHTS are numbered by their digits to the base 7, 0 for -3; number 171 is that of 0, 0, 0.
         * Those behind it are those ahead of it, each less than nought: MOST and LEAST change places, so
         * that the half ahead of it tells all.
         */
        private static final int HALF = 171;
        private static final int TIMES = 3, PLACES = 64;

        private int measured = 0;
        private int leastWidth = NOT_THERE;
        private final int[] most = new int[HALF];
        private final int[] least = new int[HALF];
        /** For each CODE: whether just its CORNERS weigh MOST by some WEIGHTS (1, 0). */
        private final int[] isTop = new int[CODES];
        /** POINTS 1, 2, 3 for each CODE; 0: not counted yet, for a body with CORNERS has some. */
        private final int[] knownPoints = new int[CODES * TIMES];

        private static int cornerWeight(int corner, int a, int b, int c) {
            return a * (corner & 1) + b * (corner >> 1 & 1) + c * (corner >> 2 & 1);
        }

        /** Of a body with CORNERS. */
        private static int mostBy(int body, int a, int b, int c) {
            int most = Integer.MIN_VALUE;
            for (int corner = 0; corner < CORNERS; corner++) {
                if (bitOf(body, corner) == 1) {
                    most = Math.max(most, cornerWeight(corner, a, b, c));
                }
            }
            return most;
        }

        private static int thoseThatWeigh(int body, int a, int b, int c, int weight) {
            int those = 0;
            for (int corner = 0; corner < CORNERS; corner++) {
                if (bitOf(body, corner) == 1 && cornerWeight(corner, a, b, c) == weight) {
                    those |= 1 << corner;
                }
            }
            return those;
        }

        private void measure(int body) {
            if (body == measured) {
                return;
            }
            measured = body;
            leastWidth = NOT_THERE;
            for (int code = 0; code < CODES; code++) {
                isTop[code] = 0;
            }
            if (body == 0) {
                return;
            }
            leastWidth = Integer.MAX_VALUE;
            for (int number = 0; number < HALF; number++) {
                measureBy(number);
                leastWidth = Math.min(leastWidth, most[number] - least[number]);
            }
        }

        private void measureBy(int number) {
            if (number < 0 || number >= HALF) {
                return;
            }
            int heaviest = Integer.MIN_VALUE;
            int lightest = Integer.MAX_VALUE;
            int top = 0;
            int bottom = 0;
            for (int corner = 0; corner < CORNERS; corner++) {
                int bit = 1 << corner & measured;
                int weight = (number / 49 - 3) * (corner & 1) + (number / 7 % 7 - 3) * (corner >> 1 & 1)
                        + (number % 7 - 3) * (corner >> 2 & 1);
                if (bit != 0 && weight >= heaviest) {
                    top = weight > heaviest ? bit : top | bit;
                    heaviest = weight;
                }
                if (bit != 0 && weight <= lightest) {
                    bottom = weight < lightest ? bit : bottom | bit;
                    lightest = weight;
                }
            }
            most[number] = heaviest;
            least[number] = lightest;
            isTop[top & ALL_CORNERS] = 1;
            isTop[bottom & ALL_CORNERS] = 1;
        }

        private int width(int body) {
            measure(body);
            return leastWidth;
        }

        private boolean isEdge(int body, int corners) {
            measure(body);
            return isMeasuredTop(corners) && Integer.bitCount(corners) == 2;
        }

        private int edgeCount(int body) {
            measure(body);
            int edges = 0;
            for (int code = 0; code < CODES; code++) {
                if (isMeasuredTop(code) && Integer.bitCount(code) == 2) {
                    edges++;
                }
            }
            return edges;
        }

        private boolean isMeasuredTop(int code) {
            return code >= 0 && code < CODES && isTop[code] == 1;
        }

        /** Three CORNERS of a cube are never in one line, so that their number is enough. */
        private boolean isMeasuredFace(int code) {
            return isMeasuredTop(code) && code != measured && Integer.bitCount(code) >= 3;
        }

        private int faceCount(int body) {
            measure(body);
            int faces = 0;
            for (int code = 0; code < CODES; code++) {
                if (isMeasuredFace(code)) {
                    faces++;
                }
            }
            return faces;
        }

        private int faceAt(int body, int i) {
            measure(body);
            int ahead = 0;
            for (int code = 0; code < CODES; code++) {
                if (isMeasuredFace(code)) {
                    if (ahead == i) {
                        return code;
                    }
                    ahead++;
                }
            }
            return NOT_THERE;
        }

        /** Of a body with CORNERS. */
        private boolean isIn(int body, int m, int x, int y, int z) {
            measure(body);
            return isInMeasured(m, x, y, z);
        }

        private boolean isInMeasured(int m, int x, int y, int z) {
            for (int number = 0; number < HALF; number++) {
                int weight = (number / 49 - 3) * x + (number / 7 % 7 - 3) * y + (number % 7 - 3) * z;
                if (weight > m * most[number] || weight < m * least[number]) {
                    return false;
                }
            }
            return true;
        }

        /** Of a body with CORNERS. */
        private int pointsIn(int body, int m) {
            int at = body * TIMES + m - 1;
            if (at < 0 || at >= knownPoints.length) {
                return 0;
            }
            if (knownPoints[at] == 0) {
                measure(body);
                for (int place = 0; place < PLACES; place++) {
                    if (isInMeasured(m, place & 3, place >> 2 & 3, place >> 4 & 3)) {
                        knownPoints[at]++;
                    }
                }
            }
            return knownPoints[at];
        }

        private int sixfold(int body) {
            return body == 0 ? 0 : pointsIn(body, 3) - 3 * pointsIn(body, 2) + 3 * pointsIn(body, 1) - 1;
        }

        private float fat(int body) {
            int width = width(body);
            return width == 0 ? 0.0f : (float) sixfold(body) / 6.0f / (float) width;
        }
    }

    /** Floats' bits, made by products and casts alone; CENTRE, FAT and SPREAD are all 0 or more, below 2. */
    private static final class Bits {
        private static final int LEAST_EXPONENT = -100;

        private static int ofFloat(float value) {
            if (value <= 0.0f) {
                return 0;
            }
            int exponent = exponentOf((double) value);
            return (exponent + 127 << 23) + (int) (fractionOf((double) value, exponent) * 8388608.0);
        }

        private static long ofDouble(double value) {
            if (value <= 0.0) {
                return 0L;
            }
            int exponent = exponentOf(value);
            return ((long) (exponent + 1023) << 52) + (long) (fractionOf(value, exponent) * 4503599627370496.0);
        }

        /** The power of 2 that the value reaches and does not double. */
        private static int exponentOf(double value) {
            double rest = value;
            int exponent = 0;
            while (rest < 1.0 && exponent > LEAST_EXPONENT) {
                rest = rest * 2.0;
                exponent--;
            }
            return exponent;
        }

        /** By how much the value is above that power, in parts of it: 0 or more, below 1. */
        private static double fractionOf(double value, int exponent) {
            double rest = value;
            for (int i = exponent; i < 0; i++) {
                rest = rest * 2.0;
            }
            return rest - 1.0;
        }
    }

    /** Rows of two numbers, told by hand. */
    private static final class Rows {
        private static final int ROOM = 8;

        private final int[] whats = new int[ROOM];
        private final int[] numbers = new int[ROOM];
        private int size = 0;

        private int empty() {
            size = 0;
            return 0;
        }

        private int append(int what, int number, int limit) {
            if (size >= limit || size >= ROOM) {
                return FULL;
            }
            whats[size] = what;
            numbers[size] = number;
            size++;
            return size;
        }

        private int whatAt(int row) {
            return row >= 0 && row < ROOM ? whats[row] : 0;
        }

        private int numberAt(int row) {
            return row >= 0 && row < ROOM ? numbers[row] : 0;
        }

        private void copyFrom(Rows other) {
            System.arraycopy(other.whats, 0, whats, 0, ROOM);
            System.arraycopy(other.numbers, 0, numbers, 0, ROOM);
            size = other.size;
        }
    }

    /** All that THE IMAGE KEPT BY HAND has: once as it is now, once as it was then. */
    private static final class Held {
        private static final int FORM = 0, OTHERS = 1, TOGETHER = 2, BOTH = 3;

        private int body = 0;
        private int kept = 0;
        private final Rows seen = new Rows();
        private final Rows events = new Rows();
        private final Rows book = new Rows();

        private void change(int how) {
            switch (how) {
                case FORM: body = Cube.formOf(body); break;
                case OTHERS: body ^= ALL_CORNERS; break;
                case TOGETHER: body |= kept; break;
                case BOTH: body &= kept; break;
                default: break;
            }
        }

        private void copyFrom(Held other) {
            body = other.body;
            kept = other.kept;
            seen.copyFrom(other.seen);
            events.copyFrom(other.events);
            book.copyFrom(other.book);
        }
    }

    /** THE TEXT, from which a set-up is read. */
    private static final class Text {
        private static final int ROOM = 100, MOST_CLAUSES = 12;
        private static final int NO_FAULT = -1, NO_CLAUSE = -1, NO_CORNERS = -1;

        private final byte[] signs = new byte[ROOM];
        private int size = 0;

        private int append(int sign) {
            if (size >= ROOM) {
                return FULL;
            }
            signs[size] = (byte) sign;
            size++;
            return size;
        }

        /** The sign at a place; -1, which is none, beyond the end. */
        private int signAt(int place) {
            return place >= 0 && place < size && place < ROOM ? signs[place] : -1;
        }

        private static int mostDigits(int sign) {
            switch (sign) {
                case '+': case '-': return 8;
                case 'm': return 2;
                case 'f': case 'o': case 'k': case 'u': case 'i': return 0;
                default: return NO_CLAUSE;
            }
        }

        private int digitsFrom(int place, int most) {
            int digits = 0;
            while (digits < most && signAt(place + digits) >= '0' && signAt(place + digits) <= '9') {
                digits++;
            }
            return digits;
        }

        private int firstFault() {
            int place = 0;
            for (int clause = 1; clause <= MOST_CLAUSES; clause++) {
                int most = mostDigits(signAt(place));
                if (most == NO_CLAUSE) {
                    return place;
                }
                int digits = digitsFrom(place + 1, most);
                place += 1 + digits;
                if (most > 0 && digits == 0) {
                    return place;
                }
                if (place >= size) {
                    return NO_FAULT;
                }
                if (signAt(place) != ';') {
                    return place;
                }
                place++;
            }
            // the last ; had no CLAUSE left that could come behind it
            return place - 1;
        }

        /** Of a text without a FAULT. */
        private int perform(Held held) {
            int done = 0;
            int place = 0;
            for (int clause = 0; clause < MOST_CLAUSES && place < size; clause++) {
                int sign = signAt(place);
                int digits = digitsFrom(place + 1, mostDigits(sign));
                if (performClause(held, sign, place + 1, digits)) {
                    done++;
                }
                place += digits + 2;
            }
            return done;
        }

        private boolean performClause(Held held, int sign, int from, int digits) {
            switch (sign) {
                case '+': case '-': return performCorners(held, sign == '+', cornersAt(from, digits));
                case 'm': return performMove(held, numberAt(from, digits));
                case 'f': held.change(Held.FORM); return true;
                case 'o': held.change(Held.OTHERS); return true;
                case 'k': held.kept = held.body; return true;
                case 'u': held.change(Held.TOGETHER); return true;
                case 'i': held.change(Held.BOTH); return true;
                default: return false;
            }
        }

        private static boolean performCorners(Held held, boolean are, int corners) {
            if (corners == NO_CORNERS) {
                return false;
            }
            held.body = are ? held.body | corners : held.body & ~corners;
            return true;
        }

        private static boolean performMove(Held held, int move) {
            if (!isMove(move)) {
                return false;
            }
            held.body = Cube.imageBy(move, held.body);
            return true;
        }

        private int cornersAt(int from, int digits) {
            int corners = 0;
            for (int i = 0; i < digits; i++) {
                int corner = signAt(from + i) - '0';
                if (!isCorner(corner)) {
                    return NO_CORNERS;
                }
                corners |= 1 << corner;
            }
            return corners;
        }

        private int numberAt(int from, int digits) {
            int number = 0;
            for (int i = 0; i < digits; i++) {
                number = number * 10 + signAt(from + i) - '0';
            }
            return number;
        }
    }

    /** A TAPE; its items stand in longs, cut to the bits that its sort has. */
    private static final class Tape {
        private static final int NO_ROW = -1, BYTES = 0, SHORTS = 1, INTS = 2, LONGS = 3, BOOLEANS = 4;
        private static final int LONGEST = 60;

        private final long[] items = new long[LONGEST];
        private int sort = NO_ROW;
        private int size = 0;

        private void becomeRow(int newSort, int newSize) {
            sort = newSort;
            size = newSize;
            for (int i = 0; i < LONGEST; i++) {
                items[i] = 0L;
            }
        }

        private boolean holdsRow() {
            return sort != NO_ROW;
        }

        private boolean hasPlace(int i) {
            return i >= 0 && i < size && i < LONGEST;
        }

        /** Subtracts rather than adds: a sum of two places might wrap round. */
        private boolean hasRun(int from, int n) {
            return n >= 0 && from >= 0 && n <= size && from <= size - n;
        }

        private long itemAt(int i) {
            return hasPlace(i) ? items[i] : 0L;
        }

        private void put(int i, long v) {
            if (hasPlace(i)) {
                items[i] = cut(v);
            }
        }

        private long cut(long v) {
            switch (sort) {
                case BYTES: return (byte) v;
                case SHORTS: return (short) v;
                case INTS: return (int) v;
                case LONGS: return v;
                default: return v != 0L ? 1L : 0L;
            }
        }
    }
}

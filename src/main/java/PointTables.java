import java.util.Arrays;
import java.util.NoSuchElementException;

/**
 * A bench for heaps of points of which only the turns of threes are told. The words in capitals
 * in the comments (TABLE, TURN, RIM, CODE ..) are the terms of the document.
 *
 * <p>All rows are made once, with the object, and used again: no call makes an object, but for
 * the exception that it throws.
 */
public final class PointTables {
    public static final int NONE = -1;

    private static final int SLOTS = 6;
    private static final int FEWEST_POINTS = 3;
    private static final int MOST_POINTS = 10;
    private static final int MOST_TURNS = 120;
    private static final int MOST_SWAPS = 45;
    private static final int MOST_BYTES = 140;
    private static final int FED_BYTES = 20;
    private static final int PLACE_BYTES = 4;
    private static final int FARTHEST = 10000;
    private static final int FEWEST_IN_FIGURE = 3;
    private static final int MOST_IN_FIGURE = 6;

    private static final int LEFT = 1;
    private static final int RIGHT = -1;

    // In a ROW, so that the lesser number is the one that is ahead.
    private static final int ROW_LEFT = 1;
    private static final int ROW_RIGHT = 2;
    private static final int BEHIND_ALL = 3;

    private static final int PLACED = 0;
    private static final int NOT_PLACES = 1;
    private static final int ON_A_LINE = 2;

    private static final int LIKE_BY_NAMES = 1;
    private static final int LIKE_BY_MIRROR = 2;

    // KINDS, each a ROW as bits (the first TURN highest, RIGHT is 1). They are written out, since
    // to look for those of 6 points costs far more than any call; KindsTest finds them anew among
    // all tables.
    private static final int[] NO_KINDS = {};
    private static final int[] KINDS_OF_3 = {0};
    private static final int[] KINDS_OF_4 = {0, 1};
    private static final int[] KINDS_OF_5 = {0, 1, 7};
    private static final int[] KINDS_OF_6 = {
        0, 1, 3, 7, 15, 23, 31, 63, 76, 183, 191, 254, 255, 510, 531, 947
    };

    private final Table[] slots = new Table[SLOTS];
    // A table is made here and comes to its slot whole, so the slot it is made from may be the same.
    private Table spare = new Table();
    private final Tape tape = new Tape();
    private final Coder coder = new Coder();
    private final Sweeper sweeper = new Sweeper();
    private final int[] out = new int[MOST_TURNS];
    private int outLength = 0;
    private int onLine = NONE;
    private final int[] xs = new int[MOST_POINTS];
    private final int[] ys = new int[MOST_POINTS];
    private final int[] origins = new int[MOST_POINTS];
    private final int[] row = new int[MOST_TURNS];

    public PointTables() {
        for (int s = 0; s < SLOTS; s++) {
            slots[s] = new Table();
        }
    }

    // ---- the tape ----

    public int feed(int a, int b, int c, int d, int e) {
        if (tape.length + FED_BYTES > MOST_BYTES) {
            return NONE;
        }
        tape.addNumber(a);
        tape.addNumber(b);
        tape.addNumber(c);
        tape.addNumber(d);
        tape.addNumber(e);
        return tape.length;
    }

    public boolean end(int n) {
        if (n < 0 || n > tape.length) {
            return false;
        }
        tape.length = n;
        return true;
    }

    // ---- tables made ----

    public int place(int s) {
        int answer = placeByTape(s);
        tape.length = 0;
        return answer;
    }

    private int placeByTape(int s) {
        int n = tape.length / PLACE_BYTES;
        if (!isSlot(s) || tape.length % PLACE_BYTES != 0 || !isSize(n) || !readPlaces(n)) {
            return NOT_PLACES;
        }
        int three = placeSpare(n);
        if (three != NONE) {
            onLine = three;
            return ON_A_LINE;
        }
        keepSpare(s);
        return PLACED;
    }

    private boolean readPlaces(int n) {
        for (int i = 0; i < n; i++) {
            xs[i] = tape.shortAt(i * PLACE_BYTES);
            ys[i] = tape.shortAt(i * PLACE_BYTES + 2);
            if (Math.abs(xs[i]) > FARTHEST || Math.abs(ys[i]) > FARTHEST) {
                return false;
            }
        }
        return true;
    }

    /** The first three that are on a line, as line() tells them; NONE, if the spare is placed. */
    private int placeSpare(int n) {
        spare.begin(n);
        for (int i = 0; i < n; i++) {
            for (int j = i + 1; j < n; j++) {
                for (int k = j + 1; k < n; k++) {
                    int area = (xs[j] - xs[i]) * (ys[k] - ys[i]) - (ys[j] - ys[i]) * (xs[k] - xs[i]);
                    if (area == 0) {
                        return i * 100 + j * 10 + k;
                    }
                    spare.put(i, j, k, area > 0);
                }
            }
        }
        return NONE;
    }

    public int line() {
        return onLine;
    }

    public boolean table(int s, int n) {
        boolean made = tableByTape(s, n);
        tape.length = 0;
        return made;
    }

    private boolean tableByTape(int s, int n) {
        if (!isSlot(s) || !isSize(n) || tape.length * 8 < turnsOf(n)) {
            return false;
        }
        for (int at = 0; at < turnsOf(n); at++) {
            row[at] = tape.hasBit(at) ? ROW_RIGHT : ROW_LEFT;
        }
        spare.takeRow(n, row);
        keepSpare(s);
        return true;
    }

    public int turn(int s, int i, int j, int k) {
        Table t = tableAt(s);
        if (t == null || !t.hasThree(i, j, k)) {
            return 0;
        }
        return t.isLeft(i, j, k) ? LEFT : RIGHT;
    }

    public boolean flip(int s, int i, int j, int k) {
        Table t = tableAt(s);
        if (t == null || !t.hasThree(i, j, k)) {
            return false;
        }
        t.put(i, j, k, !t.isLeft(i, j, k));
        t.forget();
        return true;
    }

    public boolean mirror(int s, int t) {
        Table from = tableAt(t);
        if (!isSlot(s) || from == null) {
            return false;
        }
        for (int i = 0; i < from.size; i++) {
            origins[i] = i;
        }
        spare.takeTurns(from, origins, from.size, true);
        keepSpare(s);
        return true;
    }

    public boolean rename(int s, int t) {
        boolean made = renameByTape(s, t);
        tape.length = 0;
        return made;
    }

    private boolean renameByTape(int s, int t) {
        Table from = tableAt(t);
        if (!isSlot(s) || from == null || tape.length != from.size) {
            return false;
        }
        int seen = 0;
        for (int i = 0; i < from.size; i++) {
            origins[i] = tape.byteAt(i);
            if (!from.hasPoint(origins[i])) {
                return false;
            }
            seen |= 1 << origins[i];
        }
        if (seen != from.everyPoint()) {
            return false;
        }
        spare.takeTurns(from, origins, from.size, false);
        keepSpare(s);
        return true;
    }

    public boolean without(int s, int t, int p) {
        Table from = tableAt(t);
        if (!isSlot(s) || from == null || !from.hasPoint(p) || from.size == FEWEST_POINTS) {
            return false;
        }
        for (int i = 0; i < from.size - 1; i++) {
            origins[i] = i < p ? i : i + 1;
        }
        spare.takeTurns(from, origins, from.size - 1, false);
        keepSpare(s);
        return true;
    }

    // ---- laws, rims and layers ----

    public int lawful(int s) {
        int fault = why(s);
        if (fault == NONE) {
            return NONE;
        }
        return fault == 0 ? 1 : 0;
    }

    public int why(int s) {
        Table t = tableAt(s);
        return t == null ? NONE : Laws.faultOf(t);
    }

    public int rim(int s) {
        Table t = lawfulAt(s);
        return t == null ? NONE : Integer.bitCount(Rims.rimOf(t, t.everyPoint()));
    }

    public int onRim(int s, int k) throws NoSuchElementException {
        Table t = lawfulAt(s);
        if (t == null) {
            throw new NoSuchElementException("no lawful table");
        }
        int rim = Rims.rimOf(t, t.everyPoint());
        if (k < 0 || k >= Integer.bitCount(rim)) {
            throw new NoSuchElementException("no such point of the rim");
        }
        int p = Rims.leastOf(t, rim);
        for (int step = 0; step < k; step++) {
            p = Rims.nextTo(t, rim, p);
        }
        return p;
    }

    public int layer(int s, int p) {
        Table t = lawfulAt(s);
        if (t == null || !t.hasPoint(p)) {
            return NONE;
        }
        return Rims.layerOf(t, p);
    }

    // ---- codes ----

    public int code(int s) {
        Table t = lawfulAt(s);
        if (t == null) {
            return NONE;
        }
        setOut(coder.codeOf(t), turnsOf(t.size));
        return outLength;
    }

    public boolean named(int s, int t) {
        Table from = lawfulAt(t);
        if (!isSlot(s) || from == null) {
            return false;
        }
        spare.takeRow(from.size, coder.codeOf(from));
        keepSpare(s);
        return true;
    }

    public int like(int s, int t) {
        Table one = lawfulAt(s);
        Table other = lawfulAt(t);
        if (one == null || other == null) {
            return NONE;
        }
        if (one.size != other.size) {
            return 0;
        }
        coder.findFirstRows(one);
        coder.findFirstRows(other);
        int turns = turnsOf(one.size);
        int ways = 0;
        if (Coder.compareRows(one.firstRow, other.firstRow, turns) == 0) {
            ways += LIKE_BY_NAMES;
        }
        if (Coder.compareRows(one.firstMirrorRow, other.firstRow, turns) == 0) {
            ways += LIKE_BY_MIRROR;
        }
        return ways;
    }

    // ---- sweeps ----

    public boolean swept(int s, int n) {
        boolean made = sweptByTape(s, n);
        tape.length = 0;
        return made;
    }

    private boolean sweptByTape(int s, int n) {
        if (!isSlot(s) || !isSize(n) || !sweeper.read(tape, n)) {
            return false;
        }
        sweeper.fill(spare, n);
        keepSpare(s);
        return true;
    }

    public int sweep(int s) {
        Table t = tableAt(s);
        if (t == null || !sweeper.find(t)) {
            return NONE;
        }
        setOut(sweeper.places, swapsOf(t.size));
        return outLength;
    }

    public int octet(int k) throws NoSuchElementException {
        if (k < 0 || k >= outLength) {
            throw new NoSuchElementException("no such byte of OUT");
        }
        return out[k];
    }

    // ---- figures and lines ----

    public int figures(int s, int m, boolean empty) {
        Table t = lawfulAt(s);
        if (t == null || m < FEWEST_IN_FIGURE || m > MOST_IN_FIGURE) {
            return NONE;
        }
        int count = 0;
        for (int set = 0; set <= t.everyPoint(); set++) {
            if (Integer.bitCount(set) == m && Rims.isFigure(t, set)
                    && (!empty || Rims.insideOf(t, set) == 0)) {
                count++;
            }
        }
        return count;
    }

    public int lines(int s, int left) {
        Table t = tableAt(s);
        if (t == null) {
            return NONE;
        }
        int count = 0;
        for (int i = 0; i < t.size; i++) {
            for (int j = i + 1; j < t.size; j++) {
                if (Integer.bitCount(t.leftOf(i, j)) == left) {
                    count++;
                }
            }
        }
        return count;
    }

    public int inside(int s, int i, int j, int k, int p) {
        Table t = tableAt(s);
        if (t == null || !t.hasThree(i, j, k) || !t.hasPoint(p) || p == i || p == j || p == k) {
            return NONE;
        }
        boolean left = t.isLeft(i, j, k);
        boolean within = t.isLeft(i, j, p) == left && t.isLeft(j, k, p) == left
                && t.isLeft(k, i, p) == left;
        return within ? 1 : 0;
    }

    // ---- kinds ----

    public int kinds(int n) {
        int count = kindsOf(n).length;
        return count == 0 ? NONE : count;
    }

    public boolean kind(int s, int n, int k) {
        int[] all = kindsOf(n);
        if (!isSlot(s) || k < 0 || k >= all.length) {
            return false;
        }
        int turns = turnsOf(n);
        for (int at = 0; at < turns; at++) {
            row[at] = (all[k] >> (turns - 1 - at) & 1) == 1 ? ROW_RIGHT : ROW_LEFT;
        }
        spare.takeRow(n, row);
        keepSpare(s);
        return true;
    }

    public int which(int s) {
        Table t = lawfulAt(s);
        if (t == null) {
            return NONE;
        }
        int[] all = kindsOf(t.size);
        if (all.length == 0) {
            return NONE;
        }
        int bits = Coder.bitsOf(coder.codeOf(t), turnsOf(t.size));
        for (int k = 0; k < all.length; k++) {
            if (all[k] == bits) {
                return k;
            }
        }
        return NONE;
    }

    public int points(int s) {
        return isSlot(s) ? slots[s].size : 0;
    }

    // ---- what the calls share ----

    private static boolean isSlot(int s) {
        return s >= 0 && s < SLOTS;
    }

    private static boolean isSize(int n) {
        return n >= FEWEST_POINTS && n <= MOST_POINTS;
    }

    private static int turnsOf(int n) {
        return n * (n - 1) * (n - 2) / 6;
    }

    private static int swapsOf(int n) {
        return n * (n - 1) / 2;
    }

    /** No kinds for a number of points that has none in the document. */
    private static int[] kindsOf(int n) {
        switch (n) {
            case 3:
                return KINDS_OF_3;
            case 4:
                return KINDS_OF_4;
            case 5:
                return KINDS_OF_5;
            case 6:
                return KINDS_OF_6;
            default:
                return NO_KINDS;
        }
    }

    /** Null without a table there. */
    private Table tableAt(int s) {
        return isSlot(s) && slots[s].size > 0 ? slots[s] : null;
    }

    /** Null without a lawful table there. */
    private Table lawfulAt(int s) {
        Table t = tableAt(s);
        return t != null && Laws.faultOf(t) == 0 ? t : null;
    }

    private void keepSpare(int s) {
        if (isSlot(s)) {
            Table old = slots[s];
            slots[s] = spare;
            spare = old;
        }
    }

    private void setOut(int[] bytes, int length) {
        outLength = Math.min(length, Math.min(bytes.length, out.length));
        System.arraycopy(bytes, 0, out, 0, outLength);
    }

    /** The bytes that wait for a call that takes them. */
    private static final class Tape {
        final int[] bytes = new int[MOST_BYTES];
        int length = 0;

        void addNumber(int number) {
            for (int shift = 24; shift >= 0 && length < MOST_BYTES; shift -= 8) {
                bytes[length] = number >>> shift & 255;
                length++;
            }
        }

        /** NONE behind the tape's end. */
        int byteAt(int at) {
            return at >= 0 && at < length ? bytes[at] : NONE;
        }

        int shortAt(int at) {
            return (short) (byteAt(at) << 8 | byteAt(at + 1));
        }

        boolean hasBit(int at) {
            return (byteAt(at / 8) >> (7 - at % 8) & 1) == 1;
        }
    }

    /** The turns of one table, and what has been found of them since they last changed. */
    private static final class Table {
        static final int UNKNOWN = -2;

        /** 0: no table. */
        int size = 0;
        // At i * 10 + j the points k for which i, j, k turns LEFT, as bits: so a set of points is
        // asked at once.
        final int[] lefts = new int[MOST_POINTS * MOST_POINTS];
        int fault = UNKNOWN;
        boolean firstRowsKnown = false;
        final int[] firstRow = new int[MOST_TURNS];
        final int[] firstMirrorRow = new int[MOST_TURNS];

        void begin(int n) {
            size = n;
            Arrays.fill(lefts, 0);
            forget();
        }

        void forget() {
            fault = UNKNOWN;
            firstRowsKnown = false;
        }

        int everyPoint() {
            return (1 << size) - 1;
        }

        boolean hasPoint(int p) {
            return p >= 0 && p < size;
        }

        boolean hasThree(int i, int j, int k) {
            return hasPoint(i) && hasPoint(j) && hasPoint(k) && i != j && j != k && k != i;
        }

        /** The points to the LEFT of the line from i to j, as bits. */
        int leftOf(int i, int j) {
            int at = i * MOST_POINTS + j;
            return at >= 0 && at < lefts.length ? lefts[at] : 0;
        }

        boolean isLeft(int i, int j, int k) {
            int at = i * MOST_POINTS + j;
            return at >= 0 && at < lefts.length && (lefts[at] >> k & 1) == 1;
        }

        void put(int i, int j, int k, boolean left) {
            putOne(i, j, k, left);
            putOne(j, k, i, left);
            putOne(k, i, j, left);
            putOne(j, i, k, !left);
            putOne(k, j, i, !left);
            putOne(i, k, j, !left);
        }

        private void putOne(int i, int j, int k, boolean left) {
            int at = i * MOST_POINTS + j;
            if (at < 0 || at >= lefts.length) {
                return;
            }
            if (left) {
                lefts[at] |= 1 << k;
            } else {
                lefts[at] &= ~(1 << k);
            }
        }

        void takeRow(int n, int[] turns) {
            begin(n);
            int at = 0;
            for (int i = 0; i < n; i++) {
                for (int j = i + 1; j < n; j++) {
                    for (int k = j + 1; k < n && at < turns.length; k++) {
                        put(i, j, k, turns[at] == ROW_LEFT);
                        at++;
                    }
                }
            }
        }

        /** Point i is the one that is origins[i] in the other table. */
        void takeTurns(Table from, int[] origins, int n, boolean mirrored) {
            begin(n);
            for (int i = 0; i < n; i++) {
                for (int j = i + 1; j < n; j++) {
                    for (int k = j + 1; k < n && k < origins.length; k++) {
                        boolean left = from.isLeft(origins[i], origins[j], origins[k]);
                        put(i, j, k, left != mirrored);
                    }
                }
            }
        }
    }

    /** The laws FOUR and FIVE. */
    private static final class Laws {
        /** What why() tells of a table. */
        static int faultOf(Table t) {
            if (t.fault == Table.UNKNOWN) {
                int four = firstFour(t);
                t.fault = four != 0 ? four : firstFive(t);
            }
            return t.fault;
        }

        private static int firstFour(Table t) {
            for (int a = 0; a < t.size; a++) {
                for (int b = a + 1; b < t.size; b++) {
                    for (int c = b + 1; c < t.size; c++) {
                        for (int d = c + 1; d < t.size; d++) {
                            if (breaksFour(t, a, b, c, d)) {
                                return 1 << a | 1 << b | 1 << c | 1 << d;
                            }
                        }
                    }
                }
            }
            return 0;
        }

        /**
         * Of rising points: FOUR asked for each of the 24 orders of them comes to one thing, that
         * the turns of the four threes, in the order of a ROW, alternate.
         */
        private static boolean breaksFour(Table t, int a, int b, int c, int d) {
            boolean first = t.isLeft(a, b, c);
            return t.isLeft(a, b, d) != first && t.isLeft(a, c, d) == first
                    && t.isLeft(b, c, d) != first;
        }

        private static int firstFive(Table t) {
            for (int a = 0; a < t.size; a++) {
                for (int b = a + 1; b < t.size; b++) {
                    for (int c = b + 1; c < t.size; c++) {
                        for (int d = c + 1; d < t.size; d++) {
                            for (int e = d + 1; e < t.size; e++) {
                                if (breaksFive(t, a, b, c, d, e)) {
                                    return 1 << a | 1 << b | 1 << c | 1 << d | 1 << e;
                                }
                            }
                        }
                    }
                }
            }
            return 0;
        }

        /**
         * Two of the last four points exchanged, u, v and w change places and signs all together:
         * so only which point is the first one matters.
         */
        private static boolean breaksFive(Table t, int a, int b, int c, int d, int e) {
            return isOneSided(t, a, b, c, d, e) || isOneSided(t, b, a, c, d, e)
                    || isOneSided(t, c, a, b, d, e) || isOneSided(t, d, a, b, c, e)
                    || isOneSided(t, e, a, b, c, d);
        }

        /** Whether u, v and w are the same number. */
        private static boolean isOneSided(Table t, int a, int b, int c, int d, int e) {
            boolean u = t.isLeft(a, b, c) == t.isLeft(a, d, e);
            boolean v = t.isLeft(a, b, d) != t.isLeft(a, c, e);
            return u == v && u == (t.isLeft(a, b, e) == t.isLeft(a, c, d));
        }
    }

    /** Rims of sets of points (as bits) of a lawful table. */
    private static final class Rims {
        static boolean isIn(int set, int p) {
            return (set >> p & 1) == 1;
        }

        /** NONE of an empty set. */
        static int leastOf(Table t, int set) {
            for (int p = 0; p < t.size; p++) {
                if (isIn(set, p)) {
                    return p;
                }
            }
            return NONE;
        }

        /** The point NEXT to i among the set; NONE, if i is not on its rim. */
        static int nextTo(Table t, int set, int i) {
            for (int j = 0; j < t.size; j++) {
                if (j != i && isIn(set, j)) {
                    int others = set & ~(1 << i | 1 << j);
                    if ((others & ~t.leftOf(i, j)) == 0) {
                        return j;
                    }
                }
            }
            return NONE;
        }

        static int rimOf(Table t, int set) {
            if (Integer.bitCount(set) < FEWEST_POINTS) {
                return set;
            }
            int rim = 0;
            for (int i = 0; i < t.size; i++) {
                if (isIn(set, i) && nextTo(t, set, i) != NONE) {
                    rim |= 1 << i;
                }
            }
            return rim;
        }

        static int layerOf(Table t, int p) {
            int rest = t.everyPoint();
            for (int layer = 0; layer < t.size; layer++) {
                int rim = rimOf(t, rest);
                if (isIn(rim, p)) {
                    return layer;
                }
                rest &= ~rim;
            }
            return NONE;
        }

        static boolean isFigure(Table t, int set) {
            for (int i = 0; i < t.size; i++) {
                if (isIn(set, i) && nextTo(t, set, i) == NONE) {
                    return false;
                }
            }
            return true;
        }

        /** The points INSIDE a figure, as bits. */
        static int insideOf(Table t, int figure) {
            int within = t.everyPoint() & ~figure;
            for (int i = 0; i < t.size; i++) {
                if (isIn(figure, i)) {
                    within &= t.leftOf(i, nextTo(t, figure, i));
                }
            }
            return within;
        }
    }

    /** Names by points of the rim, and the first of the rows by them. */
    private static final class Coder {
        final int[] names = new int[MOST_POINTS];

        int[] codeOf(Table t) {
            findFirstRows(t);
            boolean own = compareRows(t.firstRow, t.firstMirrorRow, turnsOf(t.size)) <= 0;
            return own ? t.firstRow : t.firstMirrorRow;
        }

        void findFirstRows(Table t) {
            if (!t.firstRowsKnown) {
                findFirstRow(t, false, t.firstRow);
                findFirstRow(t, true, t.firstMirrorRow);
                t.firstRowsKnown = true;
            }
        }

        /** A mirror has the same points on its rim. */
        private void findFirstRow(Table t, boolean mirrored, int[] first) {
            Arrays.fill(first, BEHIND_ALL);
            int rim = Rims.rimOf(t, t.everyPoint());
            for (int r = 0; r < t.size; r++) {
                if (Rims.isIn(rim, r)) {
                    nameBy(t, r, mirrored);
                    offerRow(t, mirrored, first);
                }
            }
        }

        /**
         * Around a point r of the rim the others lie in one order: the name of p follows from how
         * many are behind it, which are those to the LEFT of the line from r to p.
         */
        private void nameBy(Table t, int r, boolean mirrored) {
            names[0] = r;
            for (int p = 0; p < t.size; p++) {
                if (p != r) {
                    int lefts = Integer.bitCount(t.leftOf(r, p));
                    int name = mirrored ? lefts + 1 : t.size - 1 - lefts;
                    if (name > 0 && name < names.length) {
                        names[name] = p;
                    }
                }
            }
        }

        /** The row by the names comes to be the first one, if it is ahead of that. */
        private void offerRow(Table t, boolean mirrored, int[] first) {
            boolean ahead = false;
            int at = 0;
            for (int i = 0; i < t.size; i++) {
                for (int j = i + 1; j < t.size; j++) {
                    for (int k = j + 1; k < t.size && at < first.length; k++) {
                        boolean left = t.isLeft(names[i], names[j], names[k]) != mirrored;
                        int turn = left ? ROW_LEFT : ROW_RIGHT;
                        if (!ahead && turn > first[at]) {
                            return;
                        }
                        ahead = ahead || turn < first[at];
                        first[at] = turn;
                        at++;
                    }
                }
            }
        }

        /** Below 0, if a is ahead; 0, if they are the same; above 0, if b is ahead. */
        static int compareRows(int[] a, int[] b, int length) {
            for (int at = 0; at < length && at < a.length && at < b.length; at++) {
                if (a[at] != b[at]) {
                    return Integer.compare(a[at], b[at]);
                }
            }
            return 0;
        }

        /** A row of at most 31 turns, as the kinds are written. */
        static int bitsOf(int[] turns, int length) {
            int bits = 0;
            for (int at = 0; at < length && at < turns.length; at++) {
                bits = bits << 1 | (turns[at] == ROW_RIGHT ? 1 : 0);
            }
            return bits;
        }
    }

    /** Sweeps read and found. */
    private static final class Sweeper {
        /** The latest sweep that was found. */
        final int[] places = new int[MOST_SWAPS];
        final int[] order = new int[MOST_POINTS];
        // At p the points with which p has been swapped, as bits.
        final int[] swapped = new int[MOST_POINTS];
        // At a * 10 + b (a < b) the step at which these two were swapped.
        final int[] steps = new int[MOST_POINTS * MOST_POINTS];

        /** Whether the whole tape is a sweep of n points; if so, steps tells it. */
        boolean read(Tape tape, int n) {
            if (tape.length != swapsOf(n)) {
                return false;
            }
            begin(n);
            for (int step = 0; step < tape.length; step++) {
                int q = tape.byteAt(step);
                if (q < 0 || q > n - 2 || order[q] > order[q + 1]) {
                    return false;
                }
                steps[order[q] * MOST_POINTS + order[q + 1]] = step;
                swapAt(q);
            }
            return true;
        }

        /** The table of the sweep that was read. */
        void fill(Table t, int n) {
            t.begin(n);
            for (int i = 0; i < n; i++) {
                for (int j = i + 1; j < n; j++) {
                    for (int k = j + 1; k < n; k++) {
                        t.put(i, j, k, steps[i * MOST_POINTS + j] < steps[j * MOST_POINTS + k]);
                    }
                }
            }
        }

        /** Whether the table has a sweep; if so, places tells it. */
        boolean find(Table t) {
            begin(t.size);
            for (int step = 0; step < swapsOf(t.size); step++) {
                int q = leastPlace(t);
                if (q == NONE) {
                    return false;
                }
                places[step] = q;
                swapAt(q);
            }
            return true;
        }

        private void begin(int n) {
            for (int p = 0; p < n; p++) {
                order[p] = p;
                swapped[p] = 0;
            }
        }

        private void swapAt(int q) {
            int a = order[q];
            int b = order[q + 1];
            swapped[a] |= 1 << b;
            swapped[b] |= 1 << a;
            order[q] = b;
            order[q + 1] = a;
        }

        private int leastPlace(Table t) {
            for (int q = 0; q + 1 < t.size; q++) {
                if (order[q] < order[q + 1] && isDue(t, order[q], order[q + 1])) {
                    return q;
                }
            }
            return NONE;
        }

        private boolean isDue(Table t, int a, int b) {
            for (int c = 0; c < t.size; c++) {
                if (c != a && c != b && !isDueWith(t, a, b, c)) {
                    return false;
                }
            }
            return true;
        }

        /**
         * Whether of the swaps of a < b and c just those have been that the turn of the three has
         * ahead of a b.
         */
        private boolean isDueWith(Table t, int a, int b, int c) {
            boolean ac = areSwapped(a, c);
            boolean bc = areSwapped(b, c);
            if (c < a) {
                boolean left = t.isLeft(c, a, b);
                return ac == left && bc == left;
            }
            if (c < b) {
                boolean left = t.isLeft(a, c, b);
                return ac == left && bc != left;
            }
            boolean left = t.isLeft(a, b, c);
            return ac != left && bc != left;
        }

        private boolean areSwapped(int p, int q) {
            return (swapped[p] >> q & 1) == 1;
        }
    }
}

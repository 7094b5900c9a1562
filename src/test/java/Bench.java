import java.util.NoSuchElementException;
import java.util.function.Consumer;

/** What the tests share: tapes, tables, and what is due of them. */
class Bench {
    static final int NONE = -1;
    static final int[] WRONG_SLOTS = {-1, 6, 7, Integer.MIN_VALUE, Integer.MAX_VALUE};

    /** A square with a point in it. */
    static final int[] SQUARE = {0, 0, 4, 0, 4, 4, 0, 4, 1, 2};
    /** A square with a point in it that comes first, the others clockwise. */
    static final int[] INNER_FIRST = {1, 2, 0, 0, 0, 4, 4, 4, 4, 0};
    static final int[] TRIANGLE = {0, 0, 1, 0, 0, 1};
    static final int[] TRIANGLE_FULL = {0, 0, 10, 0, 0, 10, 2, 3};
    static final int[] HEXAGON = {100, 0, 50, 87, -50, 88, -101, 1, -49, -86, 52, -85};
    /** Three in three in three, the innermost being two. */
    static final int[] NESTED = {
        -1000, -1000, 1000, -1000, 0, 1000, -200, -200, 200, -210, 3, 200, 10, -20, -15, 7
    };
    /** Three in three in three, and one in these. */
    static final int[] DEEP = {
        -100, -100, 100, -101, 1, 100, -50, -51, 52, -50, 2, 51, -20, -21, 22, -19, 3, 20, 0, 1
    };

    /** The row, as bits of an int from the highest on, of four points that do not keep FOUR. */
    static final int NOT_LAWFUL = 0xa0000000;

    static void tape(PointTables x, int... bytes) {
        x.end(0);
        for (int from = 0; from < bytes.length; from += 20) {
            int[] five = new int[5];
            for (int i = 0; i < 20; i++) {
                five[i / 4] = five[i / 4] << 8 | (from + i < bytes.length ? bytes[from + i] & 255 : 0);
            }
            x.feed(five[0], five[1], five[2], five[3], five[4]);
        }
        x.end(bytes.length);
    }

    /** The bytes of numbers of two bytes each. */
    static int[] bytesOf(int... numbers) {
        int[] bytes = new int[2 * numbers.length];
        for (int i = 0; i < numbers.length; i++) {
            bytes[2 * i] = numbers[i] >> 8 & 255;
            bytes[2 * i + 1] = numbers[i] & 255;
        }
        return bytes;
    }

    static int put(PointTables x, int s, int... numbers) {
        tape(x, bytesOf(numbers));
        return x.place(s);
    }

    static PointTables with(int... numbers) {
        PointTables x = new PointTables();
        Check.due("place(0) of a test's own points", put(x, 0, numbers), 0);
        return x;
    }

    /** A table by the bits of one number, the highest first. */
    static PointTables withBits(int n, int bits) {
        PointTables x = new PointTables();
        x.feed(bits, 0, 0, 0, 0);
        Check.due("table(0, " + n + ") of a test's own bits", x.table(0, n), true);
        return x;
    }

    /** Places of n points all of whose turns, by rising numbers, are LEFT. */
    static int[] convex(int n) {
        int[] numbers = new int[2 * n];
        for (int i = 0; i < n; i++) {
            numbers[2 * i] = i;
            numbers[2 * i + 1] = i * i;
        }
        return numbers;
    }

    /** A sweep of n points: first 0 goes to the end, then 1 to the place ahead of it .. */
    static int[] sweepOf(int n) {
        int[] row = new int[n * (n - 1) / 2];
        int at = 0;
        for (int length = n - 1; length > 0; length--) {
            for (int q = 0; q < length; q++) {
                row[at] = q;
                at++;
            }
        }
        return row;
    }

    static int turnsOf(int n) {
        return n * (n - 1) * (n - 2) / 6;
    }

    /** The turns of a slot by rising points, 1 LEFT, 2 RIGHT, as kinds and codes are told. */
    static String rowOf(PointTables x, int s) {
        StringBuilder row = new StringBuilder();
        int n = x.points(s);
        for (int i = 0; i < n; i++) {
            for (int j = i + 1; j < n; j++) {
                for (int k = j + 1; k < n; k++) {
                    int turn = x.turn(s, i, j, k);
                    row.append(turn == 1 ? "1" : turn == -1 ? "2" : "?");
                }
            }
        }
        return row.toString();
    }

    static String outOf(PointTables x) {
        StringBuilder out = new StringBuilder();
        int k = 0;
        while (octetOr(x, k) != -2) {
            out.append(octetOr(x, k));
            k++;
        }
        return out.toString();
    }

    /** -2 where there is none. */
    static int octetOr(PointTables x, int k) {
        try {
            return x.octet(k);
        } catch (NoSuchElementException e) {
            return -2;
        }
    }

    /** -2 where there is none. */
    static int onRimOr(PointTables x, int s, int k) {
        try {
            return x.onRim(s, k);
        } catch (NoSuchElementException e) {
            return -2;
        }
    }

    static String rimOf(PointTables x, int s) {
        StringBuilder rim = new StringBuilder();
        for (int k = 0; k < x.rim(s); k++) {
            rim.append(onRimOr(x, s, k));
        }
        return rim.toString();
    }

    static String layersOf(PointTables x, int s) {
        StringBuilder layers = new StringBuilder();
        for (int p = 0; p < x.points(s); p++) {
            layers.append(x.layer(s, p));
        }
        return layers.toString();
    }

    /** How many bytes the tape has; it has them still. */
    static int tapeLength(PointTables x) {
        int fed = x.feed(0, 0, 0, 0, 0);
        if (fed != NONE) {
            x.end(fed - 20);
            return fed - 20;
        }
        int length = 140;
        while (length > 0 && !x.end(length)) {
            length--;
        }
        return length;
    }

    static void dueTapeEmpty(PointTables x) {
        Check.due("end(1), the tape being empty", x.end(1), false);
        Check.due("feed() behind an empty tape", x.feed(0, 0, 0, 0, 0), 20);
        x.end(0);
    }

    static void dueOut(PointTables x, int... bytes) {
        for (int k = 0; k < bytes.length; k++) {
            Check.due("octet(" + k + ")", octetOr(x, k), bytes[k]);
        }
        Check.dueNothingSuch("octet() behind OUT", () -> x.octet(bytes.length));
    }

    /**
     * Slot 0 a square with a point in it, 1 a table that is not lawful, 2 three points, 3 a kind
     * of six that is not like its mirror, 4 and 5 none; line() 13; OUT of ten bytes.
     */
    static PointTables furnished(int... bytes) {
        PointTables x = new PointTables();
        put(x, 0, SQUARE);
        x.feed(NOT_LAWFUL, 0, 0, 0, 0);
        x.table(1, 4);
        put(x, 2, TRIANGLE);
        x.kind(3, 6, 3);
        put(x, 4, 0, 0, 1, 1, 0, 5, 2, 2);
        x.code(0);
        tape(x, bytes);
        return x;
    }

    /** All that can be asked of an object that has not too many points; the tape goes by it. */
    static String everything(PointTables x) {
        // First the tape's length: what is asked behind it throws where OUT ends.
        StringBuilder all = new StringBuilder("tape of ").append(tapeLength(x));
        all.append(", line ").append(x.line()).append(", out ").append(outOf(x));
        for (int s = 0; s < 6; s++) {
            all.append(", slot ").append(s).append(' ').append(rowOf(x, s));
        }
        x.feed(0, 0, 0, 0, 0);
        x.table(5, 10);
        return all.append(", the tape's bits ").append(rowOf(x, 5)).toString();
    }

    /** That a call leaves all as it was: one furnished object gets the call, another does not. */
    static void dueStays(String call, int[] bytes, Consumer<PointTables> made) {
        PointTables x = furnished(bytes);
        made.accept(x);
        Check.due("all that is there behind " + call, everything(x), everything(furnished(bytes)));
    }

    /** That a call takes the tape, and leaves all else as it was. */
    static void dueTakesTapeAlone(String call, int[] bytes, Consumer<PointTables> made) {
        PointTables x = furnished(bytes);
        made.accept(x);
        Check.due("all that is there behind " + call, everything(x), everything(furnished()));
    }
}

import java.util.function.IntPredicate;

/** Promises 7 to 13: the sentences that name a boundary. */
final class TableEdges extends Bench {
    private static final int[] NO_BYTES = {};
    /** No points of a table of five. */
    private static final int[] NO_POINTS = {-1, 5, 6, 9, 10, 31, 32, 33, 37, Integer.MIN_VALUE, Integer.MAX_VALUE};

    private TableEdges() {
    }

    static void all() {
        turn();
        flip();
        mirror();
        rename();
        without();
        lawful();
        why();
    }

    private static void turn() {
        Edge.of(7, "0: no TABLE", "an empty slot, or no slot", () -> {
            PointTables x = with(SQUARE);
            Check.due("turn(1, 0, 1, 2)", x.turn(1, 0, 1, 2), 0);
            for (int s : WRONG_SLOTS) {
                Check.due("turn(" + s + ", 0, 1, 2)", x.turn(s, 0, 1, 2), 0);
            }
        });
        Edge.of(7, "no such POINTS", "below 0, or n and above, at each of the three", () -> {
            PointTables x = with(SQUARE);
            for (int p : NO_POINTS) {
                Check.due("turn(0, " + p + ", 0, 1)", x.turn(0, p, 0, 1), 0);
                Check.due("turn(0, 0, " + p + ", 1)", x.turn(0, 0, p, 1), 0);
                Check.due("turn(0, 0, 1, " + p + ")", x.turn(0, 0, 1, p), 0);
            }
        });
        Edge.of(7, "no such POINTS", "points that a greater table has left behind", () -> {
            PointTables x = with(convex(10));
            put(x, 0, TRIANGLE);
            put(x, 0, TRIANGLE);
            for (int p = 3; p < 10; p++) {
                Check.due("turn(0, 0, 1, " + p + ")", x.turn(0, 0, 1, p), 0);
            }
        });
        Edge.of(7, "or two are the same", "each two, and all three", () -> {
            PointTables x = with(SQUARE);
            for (int p = 0; p < 5; p++) {
                int other = (p + 1) % 5;
                Check.due("turn p p q", x.turn(0, p, p, other), 0);
                Check.due("turn p q p", x.turn(0, p, other, p), 0);
                Check.due("turn q p p", x.turn(0, other, p, p), 0);
                Check.due("turn p p p", x.turn(0, p, p, p), 0);
            }
        });
    }

    private static void flip() {
        String other = "TURN of the three POINTS in SLOT s becomes the other one: true";
        Edge.of(8, other, "each of the first and last three, and no other turn", TableEdges::flipOneAlone);
        Edge.of(8, other, "twice is as it was", () -> dueStays("flip() twice", NO_BYTES, x -> {
            Check.due("flip(0, 4, 0, 2)", x.flip(0, 4, 0, 2), true);
            Check.due("flip(0, 0, 4, 2)", x.flip(0, 0, 4, 2), true);
        }));
        Edge.of(8, other, "of what was asked ahead of it nothing is kept", TableEdges::flipForgets);
        String where = "false, where turn() is 0";
        Edge.of(8, where, "no table, no slot", () -> {
            dueNotFlipped(4, 0, 1, 2);
            for (int s : WRONG_SLOTS) {
                dueNotFlipped(s, 0, 1, 2);
            }
        });
        Edge.of(8, where, "no such points", () -> {
            for (int p : NO_POINTS) {
                dueNotFlipped(0, p, 0, 1);
                dueNotFlipped(0, 0, p, 1);
                dueNotFlipped(0, 0, 1, p);
            }
        });
        Edge.of(8, where, "two are the same", () -> {
            dueNotFlipped(0, 1, 1, 2);
            dueNotFlipped(0, 1, 2, 1);
            dueNotFlipped(0, 2, 1, 1);
            dueNotFlipped(0, 1, 1, 1);
        });
    }

    private static void flipOneAlone() {
        PointTables x = with(convex(10));
        Check.due("flip(0, 0, 1, 2)", x.flip(0, 0, 1, 2), true);
        Check.due("the row", rowOf(x, 0), "2" + "1".repeat(119));
        Check.due("flip(0, 9, 8, 7)", x.flip(0, 9, 8, 7), true);
        Check.due("the row", rowOf(x, 0), "2" + "1".repeat(118) + "2");
    }

    private static void flipForgets() {
        PointTables x = with(TRIANGLE_FULL);
        Check.due("which(0)", x.which(0), 1);
        x.flip(0, 0, 1, 2);
        Check.due("why(0), the triangle being turned about", x.why(0), 15);
        Check.due("which(0)", x.which(0), NONE);
        x.flip(0, 0, 1, 2);
        Check.due("why(0) again", x.why(0), 0);
        x.flip(0, 1, 2, 3);
        Check.due("which(0), the inner one being outside", x.which(0), 0);
        Check.due("rim(0)", x.rim(0), 4);
    }

    private static void dueNotFlipped(int s, int i, int j, int k) {
        Check.due("flip(" + s + ", " + i + ", " + j + ", " + k + ")", furnished().flip(s, i, j, k), false);
        dueStays("flip(" + s + ", " + i + ", " + j + ", " + k + ")", NO_BYTES, x -> x.flip(s, i, j, k));
    }

    private static void mirror() {
        String mirror = "SLOT s is the MIRROR of t's: true";
        Edge.of(9, mirror, "a slot of itself", () -> {
            PointTables x = with(INNER_FIRST);
            String row = rowOf(x, 0);
            Check.due("mirror(0, 0)", x.mirror(0, 0), true);
            Check.due("the row", rowOf(x, 0), row.replace('1', '3').replace('2', '1').replace('3', '2'));
        });
        Edge.of(9, mirror, "into an empty slot and a full one, of three and of ten points", () -> {
            PointTables x = with(convex(10));
            put(x, 1, TRIANGLE);
            Check.due("mirror(5, 0)", x.mirror(5, 0), true);
            Check.due("the row", rowOf(x, 5), "2".repeat(120));
            Check.due("mirror(0, 1)", x.mirror(0, 1), true);
            Check.due("the row", rowOf(x, 0), "2");
        });
        Edge.of(9, mirror, "of a table that is not lawful", () -> {
            PointTables x = withBits(4, NOT_LAWFUL);
            Check.due("mirror(1, 0)", x.mirror(1, 0), true);
            Check.due("the row", rowOf(x, 1), "1212");
        });
        Edge.of(9, "false: t has none", "an empty t, which may be s", () -> {
            dueRefused("mirror(0, 4)", NO_BYTES, x -> x.mirror(0, 4));
            dueRefused("mirror(4, 4)", NO_BYTES, x -> x.mirror(4, 4));
        });
        Edge.of(9, "or there is no such SLOT", "as s", () -> {
            for (int s : WRONG_SLOTS) {
                dueRefused("mirror(" + s + ", 0)", NO_BYTES, x -> x.mirror(s, 0));
            }
        });
        Edge.of(9, "or there is no such SLOT", "as t, or as both", () -> {
            for (int t : WRONG_SLOTS) {
                dueRefused("mirror(0, " + t + ")", NO_BYTES, x -> x.mirror(0, t));
                dueRefused("mirror(" + t + ", " + t + ")", NO_BYTES, x -> x.mirror(t, t));
            }
        });
    }

    interface Refused {
        boolean by(PointTables x);
    }

    /** That a call is false; where there are bytes, it takes them, and all else stays. */
    private static void dueRefused(String call, int[] bytes, Refused made) {
        Check.due(call, made.by(furnished(bytes)), false);
        dueTakesTapeAlone(call, bytes, made::by);
    }

    private static void rename() {
        String now = "byte i of the tape is the POINT of t that is i now: true";
        Edge.of(10, now, "three points, in each order", () -> {
            int[][] orders = {{0, 1, 2}, {0, 2, 1}, {1, 0, 2}, {1, 2, 0}, {2, 0, 1}, {2, 1, 0}};
            String[] want = {"1", "2", "2", "1", "1", "2"};
            for (int i = 0; i < orders.length; i++) {
                PointTables x = with(TRIANGLE);
                tape(x, orders[i]);
                Check.due("rename(1, 0)", x.rename(1, 0), true);
                Check.due("the row by order " + i, rowOf(x, 1), want[i]);
            }
        });
        Edge.of(10, now, "ten points, the last first", () -> {
            PointTables x = with(convex(10));
            x.flip(0, 0, 1, 2);
            tape(x, 9, 8, 7, 6, 5, 4, 3, 2, 1, 0);
            Check.due("rename(1, 0)", x.rename(1, 0), true);
            Check.due("the row", rowOf(x, 1), "2".repeat(119) + "1");
        });
        Edge.of(10, now, "which of the two is byte i, and which the new one", () -> {
            PointTables x = with(TRIANGLE_FULL);
            tape(x, 3, 0, 1, 2);
            Check.due("rename(1, 0)", x.rename(1, 0), true);
            Check.due("layers, the inner one being 0 now", layersOf(x, 1), "1000");
        });
        Edge.of(10, now, "a slot of itself", () -> {
            PointTables x = with(TRIANGLE_FULL);
            tape(x, 3, 0, 1, 2);
            Check.due("rename(0, 0)", x.rename(0, 0), true);
            Check.due("layers", layersOf(x, 0), "1000");
        });
        Edge.of(10, "false: as mirror()", "t has none", () -> dueNotRenamed(0, 4, 0, 1, 2, 3, 4));
        Edge.of(10, "false: as mirror()", "there is no such slot", () -> {
            for (int s : WRONG_SLOTS) {
                dueNotRenamed(s, 0, 0, 1, 2, 3, 4);
                dueNotRenamed(0, s, 0, 1, 2, 3, 4);
            }
        });
        String once = "or not each POINT is there once";
        Edge.of(10, once, "the tape is empty", () -> dueNotRenamed(0, 0));
        Edge.of(10, once, "one is missing at the end", () -> dueNotRenamed(0, 0, 4, 3, 2, 1));
        Edge.of(10, once, "one is there twice, each in turn for each other", () -> {
            for (int missing = 0; missing < 5; missing++) {
                for (int twice = 0; twice < 5; twice++) {
                    int[] bytes = {0, 1, 2, 3, 4};
                    bytes[missing] = twice;
                    if (missing != twice) {
                        dueNotRenamed(0, 0, bytes);
                    }
                }
            }
        });
        Edge.of(10, once, "one is there again behind all", () -> dueNotRenamed(0, 0, 0, 1, 2, 3, 4, 0));
        Edge.of(10, once, "one that is no point stands for another", () -> {
            for (int p : new int[] {5, 10, 31, 32, 36, 128, 255}) {
                dueNotRenamed(0, 0, 0, 1, 2, 3, p);
                dueNotRenamed(0, 0, p, 1, 2, 3, 4);
            }
        });
    }

    private static void dueNotRenamed(int s, int t, int... bytes) {
        dueRefused("rename(" + s + ", " + t + ") of " + java.util.Arrays.toString(bytes), bytes, x -> x.rename(s, t));
    }

    private static void without() {
        String less = "those behind it having one less: true";
        Edge.of(11, less, "the first, one between, and the last of ten", () -> {
            dueWithout(10, 0);
            dueWithout(10, 5);
            dueWithout(10, 9);
        });
        Edge.of(11, less, "each of four: three are left", () -> {
            for (int p = 0; p < 4; p++) {
                dueWithout(4, p);
            }
        });
        Edge.of(11, less, "a slot of itself", () -> {
            PointTables x = with(INNER_FIRST);
            Check.due("without(0, 0, 0)", x.without(0, 0, 0), true);
            Check.due("points(0)", x.points(0), 4);
            Check.due("layers", layersOf(x, 0), "0000");
        });
        Edge.of(11, "false: as mirror()", "t has none, or there is no such slot", () -> {
            dueRefused("without(0, 4, 0)", NO_BYTES, x -> x.without(0, 4, 0));
            for (int s : WRONG_SLOTS) {
                dueRefused("without(" + s + ", 0, 0)", NO_BYTES, x -> x.without(s, 0, 0));
                dueRefused("without(0, " + s + ", 0)", NO_BYTES, x -> x.without(0, s, 0));
            }
        });
        Edge.of(11, "no such POINT", "-1, n and farther ones", () -> {
            for (int p : NO_POINTS) {
                dueRefused("without(4, 0, " + p + ")", NO_BYTES, x -> x.without(4, 0, p));
            }
        });
        Edge.of(11, "or there are 3", "into another slot and itself", () -> {
            for (int p = 0; p < 3; p++) {
                final int point = p;
                dueRefused("without(4, 2, " + p + ")", NO_BYTES, x -> x.without(4, 2, point));
                dueRefused("without(2, 2, " + p + ")", NO_BYTES, x -> x.without(2, 2, point));
            }
        });
    }

    /** The turns without p are those of the row that have no p in them, in their order. */
    private static void dueWithout(int n, int p) {
        PointTables x = new PointTables();
        tape(x, 0x5a, 0x33, 0xc6, 0x17, 0xe9, 0x48, 0x71, 0x9d, 0x02, 0xb5, 0x6e, 0x14, 0xf8, 0x2b, 0xd1);
        x.table(0, n);
        String row = rowOf(x, 0);
        StringBuilder want = new StringBuilder();
        int at = 0;
        for (int i = 0; i < n; i++) {
            for (int j = i + 1; j < n; j++) {
                for (int k = j + 1; k < n; k++) {
                    if (i != p && j != p && k != p) {
                        want.append(row.charAt(at));
                    }
                    at++;
                }
            }
        }
        Check.due("without(1, 0, " + p + ")", x.without(1, 0, p), true);
        Check.due("points(1)", x.points(1), n - 1);
        Check.due("the row without " + p, rowOf(x, 1), want.toString());
    }

    private static void lawful() {
        Edge.of(12, "1 LAWFUL, 0 not", "one turn between them", () -> {
            PointTables x = with(convex(10));
            Check.due("lawful(0)", x.lawful(0), 1);
            x.flip(0, 6, 7, 9);
            Check.due("lawful(0), one turn being another", x.lawful(0), 0);
            x.flip(0, 6, 7, 9);
            Check.due("lawful(0) again", x.lawful(0), 1);
        });
        Edge.of(12, "1 LAWFUL, 0 not", "FOUR holds and FIVE does not", () ->
            Check.due("lawful(0)", withBits(5, 2 << 22).lawful(0), 0));
        Edge.of(12, "NONE: no TABLE", "an empty slot, or no slot",
            () -> dueNoneWithout("lawful()", s -> furnished().lawful(s) == NONE));
    }

    /** That it is so for an empty slot and for no slot. */
    private static void dueNoneWithout(String call, IntPredicate isNone) {
        Check.due(call + " of slot 4", isNone.test(4), true);
        for (int s : WRONG_SLOTS) {
            Check.due(call + " of slot " + s, isNone.test(s), true);
        }
    }

    private static void why() {
        String four = "the first four POINTS, as bits, for which FOUR does not hold (in whatever order of them)";
        Edge.of(13, four, "the first four", () -> dueWhy(0b1111, 0, 1, 3, 1, 2, 3));
        Edge.of(13, four, "the last four of ten, and no others", () -> dueWhy(0b1111000000, 6, 7, 9, 7, 8, 9));
        Edge.of(13, four, "either way that turns can break it", () -> {
            Check.due("why(0) of 1010", withBits(4, 0b1010 << 28).why(0), 15);
            Check.due("why(0) of 0101", withBits(4, 0b0101 << 28).why(0), 15);
        });
        String five = "else the first five for which FIVE does not";
        Edge.of(13, five, "the first five", () -> dueWhy(0b0000011111, 1, 3, 4));
        Edge.of(13, five, "the last that can be the first: 0 and the last four", () -> dueWhy(0b1111000001, 6, 8, 9));
        Edge.of(13, five, "not while a four is there, though it be the last", () ->
            dueWhy(0b1111000000, 1, 3, 4, 6, 7, 9, 7, 8, 9));
        String first = "(first: by the least POINT, then the next, ..)";
        Edge.of(13, first, "0 1 2 9 ahead of 0 1 3 4",
            () -> dueWhy(0b1000000111, 0, 1, 4, 1, 3, 4, 0, 1, 9, 1, 2, 9));
        Edge.of(13, first, "0 7 8 9 ahead of 1 2 3 4",
            () -> dueWhy(0b1110000001, 1, 2, 4, 2, 3, 4, 0, 7, 9, 7, 8, 9));
        Edge.of(13, first, "the fives 0 1 2 3 5 and 0 1 2 4 5 of six", () -> {
            Check.due("why(0)", withBits(6, 32 << 12).why(0), 0b101111);
            Check.due("why(0)", withBits(6, 16 << 12).why(0), 0b110111);
        });
        Edge.of(13, "0, if it is LAWFUL", "three points, and ten", () -> {
            Check.due("why(0)", with(TRIANGLE).why(0), 0);
            Check.due("why(0)", with(DEEP).why(0), 0);
        });
        Edge.of(13, "NONE: no TABLE", "an empty slot, or no slot",
            () -> dueNoneWithout("why()", s -> furnished().why(s) == NONE));
    }

    /** Of ten points whose turns are LEFT but for these threes. */
    private static void dueWhy(int want, int... threes) {
        PointTables x = with(convex(10));
        for (int at = 0; at + 2 < threes.length; at += 3) {
            x.flip(0, threes[at], threes[at + 1], threes[at + 2]);
        }
        Check.due("why(0)", x.why(0), want);
        Check.due("lawful(0)", x.lawful(0), 0);
    }
}

/** Promises 23 to 29: the sentences that name a boundary. */
final class CountEdges extends Bench {
    private static final int[] NO_BYTES = {};
    /** Furnished slots that have no table, and no slots. */
    private static final int[] NO_TABLES = {4, 5, -1, 6, 7, Integer.MIN_VALUE, Integer.MAX_VALUE};

    private CountEdges() {
    }

    static void all() {
        figures();
        lines();
        inside();
        kinds();
        kind();
        which();
        points();
    }

    private static void figures() {
        String many = "How many FIGURES of m POINTS there are, all, or EMPTY ones";
        Edge.of(23, many, "m from 3 to 6 of ten points that are all on the rim", () -> {
            int[] want = {120, 210, 252, 210};
            PointTables x = with(convex(10));
            for (int m = 3; m <= 6; m++) {
                Check.due("figures(0, " + m + ", false)", x.figures(0, m, false), want[m - 3]);
                Check.due("figures(0, " + m + ", true)", x.figures(0, m, true), want[m - 3]);
            }
        });
        Edge.of(23, many, "more than there are points", () -> {
            for (int m = 4; m <= 6; m++) {
                Check.due("figures(0, " + m + ", false) of three", with(TRIANGLE).figures(0, m, false), 0);
                Check.due("figures(0, " + m + ", true) of three", with(TRIANGLE).figures(0, m, true), 0);
            }
        });
        Edge.of(23, many, "none at all, and some that are not empty", () -> {
            Check.due("figures(0, 5, false)", with(SQUARE).figures(0, 5, false), 0);
            PointTables x = with(0, 0, 10, 0, 10, 10, 0, 10, 4, 5, 6, 5);
            Check.due("figures(0, 4, false), the square and those within", x.figures(0, 4, false), 9);
            Check.due("figures(0, 4, true)", x.figures(0, 4, true), 4);
        });
        Edge.of(23, "NONE: no LAWFUL TABLE", "not lawful, no table, no slot", () -> {
            Check.due("figures(1, 3, false)", furnished().figures(1, 3, false), NONE);
            Check.due("figures(1, 3, true)", furnished().figures(1, 3, true), NONE);
            for (int s : NO_TABLES) {
                Check.due("figures(" + s + ", 3, false)", furnished().figures(s, 3, false), NONE);
                Check.due("figures(" + s + ", 3, true)", furnished().figures(s, 3, true), NONE);
            }
        });
        Edge.of(23, "or another m", "2, 7 and farther ones", () -> {
            PointTables x = with(convex(10));
            for (int m : new int[] {2, 7, 1, 0, -1, 8, 10, Integer.MIN_VALUE, Integer.MAX_VALUE}) {
                Check.due("figures(0, " + m + ", false)", x.figures(0, m, false), NONE);
                Check.due("figures(0, " + m + ", true)", x.figures(0, m, true), NONE);
            }
        });
    }

    private static void lines() {
        String many = "How many LINES have just so many POINTS beside them to the LEFT";
        Edge.of(24, many, "none, and all others", () -> {
            Check.due("lines(0, 0) of three", with(TRIANGLE).lines(0, 0), 1);
            Check.due("lines(0, 1) of three", with(TRIANGLE).lines(0, 1), 2);
            Check.due("lines(0, 8) of ten", with(convex(10)).lines(0, 8), 9);
        });
        Edge.of(24, many, "below none, and above all others", () -> {
            PointTables x = with(convex(10));
            for (int left : new int[] {-1, 9, 10, Integer.MIN_VALUE, Integer.MAX_VALUE}) {
                Check.due("lines(0, " + left + ")", x.lines(0, left), 0);
            }
        });
        Edge.of(24, many, "of a table in the place of a greater one", () -> {
            PointTables x = with(convex(10));
            put(x, 0, convex(10));
            put(x, 0, convex(4));
            Check.due("lines(0, 0) of four", x.lines(0, 0), 1);
            Check.due("lines(0, 2) of four", x.lines(0, 2), 3);
            put(x, 0, TRIANGLE);
            Check.due("lines(0, 0) of three", x.lines(0, 0), 1);
            Check.due("lines(0, 1) of three", x.lines(0, 1), 2);
        });
        Edge.of(24, many, "of a table that is not lawful", () -> {
            Check.due("lines(1, 1)", furnished().lines(1, 1), 6);
            Check.due("lines(1, 0)", furnished().lines(1, 0), 0);
        });
        Edge.of(24, "NONE: no TABLE", "an empty slot, or no slot", () -> {
            for (int s : NO_TABLES) {
                Check.due("lines(" + s + ", 0)", furnished().lines(s, 0), NONE);
                Check.due("lines(" + s + ", -1)", furnished().lines(s, -1), NONE);
            }
        });
    }

    private static void inside() {
        String all = "(i j p, j k p, k i p all turn as i j k does): 1, 0";
        Edge.of(25, all, "within, or beyond one side, by both ways round", () -> {
            dueInside(1, 50, 1);
            dueInside(0, 50, -1);
            dueInside(0, 51, 50);
            dueInside(1, 50, 49);
            dueInside(1, 1, 50);
            dueInside(0, -1, 50);
        });
        Edge.of(25, all, "beyond a corner", () -> {
            dueInside(0, -1, -2);
            dueInside(0, 102, -1);
            dueInside(0, -1, 102);
        });
        Edge.of(25, all, "of a table that is not lawful", () -> {
            Check.due("inside(1, 0, 1, 2, 3)", furnished().inside(1, 0, 1, 2, 3), 0);
            PointTables x = withBits(5, 0b0001000010 << 22);
            Check.due("lawful(0)", x.lawful(0), 0);
            Check.due("inside(0, 0, 1, 2, 3)", x.inside(0, 0, 1, 2, 3), 1);
        });
        Edge.of(25, "NONE: no TABLE", "an empty slot, or no slot", () -> {
            for (int s : NO_TABLES) {
                Check.due("inside(" + s + ", 0, 1, 2, 3)", furnished().inside(s, 0, 1, 2, 3), NONE);
            }
        });
        String four = "or not four POINTS, unlike ones";
        Edge.of(25, four, "one of them no point", () -> {
            for (int p : new int[] {-1, 5, 6, 10, 31, 32, 34, 36, Integer.MIN_VALUE, Integer.MAX_VALUE}) {
                Check.due("inside p 1 2 3", furnished().inside(0, p, 1, 2, 3), NONE);
                Check.due("inside 0 p 2 3", furnished().inside(0, 0, p, 2, 3), NONE);
                Check.due("inside 0 1 p 3", furnished().inside(0, 0, 1, p, 3), NONE);
                Check.due("inside 0 1 2 p", furnished().inside(0, 0, 1, 2, p), NONE);
            }
        });
        Edge.of(25, four, "each two of them the same", () -> {
            int[][] fours = {{1, 1, 2, 3}, {1, 2, 1, 3}, {1, 2, 3, 1}, {1, 2, 2, 3}, {1, 2, 3, 2}, {1, 2, 3, 3}};
            for (int[] f : fours) {
                Check.due("inside " + f[0] + f[1] + f[2] + f[3], furnished().inside(0, f[0], f[1], f[2], f[3]), NONE);
            }
        });
        Edge.of(25, four, "a table of three has no four", () ->
            Check.due("inside(2, 0, 1, 2, 3)", furnished().inside(2, 0, 1, 2, 3), NONE));
    }

    private static void dueInside(int want, int x, int y) {
        PointTables t = with(0, 0, 100, 0, 0, 100, x, y);
        int[][] orders = {{0, 1, 2}, {1, 2, 0}, {2, 0, 1}, {0, 2, 1}, {2, 1, 0}, {1, 0, 2}};
        for (int[] o : orders) {
            Check.due("inside " + o[0] + o[1] + o[2] + ", p at " + x + " " + y, t.inside(0, o[0], o[1], o[2], 3), want);
        }
    }

    private static void kinds() {
        Edge.of(26, "How many KINDS of n POINTS (3 to 6) there are", "3, 4, 5 and 6", () -> {
            int[] want = {1, 2, 3, 16};
            for (int n = 3; n <= 6; n++) {
                Check.due("kinds(" + n + ")", new PointTables().kinds(n), want[n - 3]);
            }
        });
        Edge.of(26, "NONE: another n", "2, 7 and farther ones", () -> {
            for (int n : new int[] {2, 7, 1, 0, -1, -3, 8, 10, Integer.MIN_VALUE, Integer.MAX_VALUE}) {
                Check.due("kinds(" + n + ")", new PointTables().kinds(n), NONE);
            }
        });
    }

    private static void kind() {
        String row = "SLOT s is a TABLE whose ROW is KIND k (from 0 on) of n POINTS: true";
        Edge.of(27, row, "the first of each n: all on the rim", () -> {
            for (int n = 3; n <= 6; n++) {
                PointTables x = new PointTables();
                Check.due("kind(5, " + n + ", 0)", x.kind(5, n, 0), true);
                Check.due("the row", rowOf(x, 5), "1".repeat(turnsOf(n)));
            }
        });
        Edge.of(27, row, "the last of each n", () -> {
            dueKind(3, 0, "1");
            dueKind(4, 1, "1112");
            dueKind(5, 2, "1111111222");
            dueKind(6, 15, "11111111112221221122");
        });
        Edge.of(27, row, "in the place of another table", () -> {
            PointTables x = with(convex(10));
            Check.due("kind(0, 3, 0)", x.kind(0, 3, 0), true);
            Check.due("the row", rowOf(x, 0), "1");
        });
        String none = "false: no such ones.";
        Edge.of(27, none, "behind the last of each n", () -> {
            dueNoKind(0, 3, 1);
            dueNoKind(0, 4, 2);
            dueNoKind(0, 5, 3);
            dueNoKind(0, 6, 16);
            dueNoKind(0, 6, Integer.MAX_VALUE);
        });
        Edge.of(27, none, "ahead of the first", () -> {
            for (int n = 3; n <= 6; n++) {
                dueNoKind(0, n, -1);
                dueNoKind(0, n, Integer.MIN_VALUE);
            }
        });
        Edge.of(27, none, "n 2, 7 and farther ones", () -> {
            for (int n : new int[] {2, 7, 0, -1, 10, Integer.MIN_VALUE, Integer.MAX_VALUE}) {
                dueNoKind(0, n, 0);
            }
        });
        Edge.of(27, none, "no slot", () -> {
            for (int s : WRONG_SLOTS) {
                dueNoKind(s, 3, 0);
                dueNoKind(s, 6, 15);
            }
        });
    }

    private static void dueKind(int n, int k, String row) {
        PointTables x = new PointTables();
        Check.due("kind(0, " + n + ", " + k + ")", x.kind(0, n, k), true);
        Check.due("the row", rowOf(x, 0), row);
    }

    private static void dueNoKind(int s, int n, int k) {
        Check.due("kind(" + s + ", " + n + ", " + k + ")", furnished().kind(s, n, k), false);
        dueStays("kind(" + s + ", " + n + ", " + k + ")", NO_BYTES, x -> x.kind(s, n, k));
    }

    private static void which() {
        String kind = "Which KIND (of its n) SLOT s is";
        Edge.of(28, kind, "three points either way, and the first and last of six", () -> {
            Check.due("which(0)", withBits(3, 0).which(0), 0);
            Check.due("which(0)", withBits(3, 0x80000000).which(0), 0);
            PointTables x = with(HEXAGON);
            Check.due("which(0)", x.which(0), 0);
            x.kind(1, 6, 15);
            x.mirror(1, 1);
            Check.due("which(1)", x.which(1), 15);
        });
        Edge.of(28, kind, "each of each n", () -> {
            PointTables x = new PointTables();
            for (int n = 3; n <= 6; n++) {
                for (int k = 0; k < x.kinds(n); k++) {
                    x.kind(0, n, k);
                    Check.due("which(0) of kind " + k + " of " + n, x.which(0), k);
                }
            }
        });
        Edge.of(28, "NONE: no LAWFUL TABLE", "not lawful, no table, no slot", () -> {
            Check.due("which(1)", furnished().which(1), NONE);
            for (int s : NO_TABLES) {
                Check.due("which(" + s + ")", furnished().which(s), NONE);
            }
            Check.due("which(0), FIVE being broken alone", withBits(5, 2 << 22).which(0), NONE);
        });
        Edge.of(28, "or above 6 POINTS", "6 have one, 7 to 10 have none", () -> {
            Check.due("which(0) of 6", with(convex(6)).which(0), 0);
            for (int n = 7; n <= 10; n++) {
                Check.due("which(0) of " + n, with(convex(n)).which(0), NONE);
            }
        });
    }

    private static void points() {
        String points = "POINTS of SLOT s (0 without a TABLE, or no such one).";
        Edge.of(29, points, "3 to 10", () -> {
            for (int n = 3; n <= 10; n++) {
                Check.due("points(0)", with(convex(n)).points(0), n);
            }
        });
        Edge.of(29, points, "of a table that is not lawful", () -> Check.due("points(1)", furnished().points(1), 4));
        Edge.of(29, points, "without a table", () -> {
            Check.due("points(4)", furnished().points(4), 0);
            Check.due("points(5)", furnished().points(5), 0);
        });
        Edge.of(29, points, "no such slot", () -> {
            for (int s : WRONG_SLOTS) {
                Check.due("points(" + s + ")", furnished().points(s), 0);
            }
        });
    }
}

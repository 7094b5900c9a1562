/** Promises 14 to 19: the sentences that name a boundary. */
final class RimEdges extends Bench {
    private static final int[] BYTES = {7, 6, 5};
    /** Furnished slots that have no lawful table, and no slots. */
    private static final int[] NOT_LAWFUL_SLOTS = {1, 4, 5, -1, 6, 7, Integer.MIN_VALUE, Integer.MAX_VALUE};

    private RimEdges() {
    }

    static void all() {
        rim();
        onRim();
        layer();
        code();
        named();
        like();
    }

    private static void rim() {
        String many = "How many POINTS the RIM has";
        Edge.of(14, many, "from 3 to all 10", () -> {
            for (int n = 3; n <= 10; n++) {
                Check.due("rim(0) of " + n, with(convex(n)).rim(0), n);
            }
            Check.due("rim(0), 3 of ten", with(DEEP).rim(0), 3);
        });
        Edge.of(14, "NONE: no LAWFUL TABLE", "not lawful, no table, no slot", () -> {
            for (int s : NOT_LAWFUL_SLOTS) {
                Check.due("rim(" + s + ")", furnished().rim(s), NONE);
            }
            Check.due("rim(0), FIVE being broken alone", withBits(5, 2 << 22).rim(0), NONE);
        });
    }

    private static void onRim() {
        String kth = "POINT k of the RIM (0 the first)";
        Edge.of(15, kth, "the first and the last", () -> {
            Check.due("onRim(0, 0)", onRimOr(with(INNER_FIRST), 0, 0), 1);
            Check.due("onRim(0, 3)", onRimOr(with(INNER_FIRST), 0, 3), 2);
            Check.due("onRim(0, 9) of ten", onRimOr(with(convex(10)), 0, 9), 9);
        });
        String none = "NoSuchElementException: there is none such.";
        Edge.of(15, none, "behind the last: it does not begin again", () -> {
            Check.dueNothingSuch("onRim(0, 4)", () -> furnished().onRim(0, 4));
            Check.dueNothingSuch("onRim(0, 5)", () -> furnished().onRim(0, 5));
            Check.dueNothingSuch("onRim(0, 10) of ten", () -> with(convex(10)).onRim(0, 10));
            Check.dueNothingSuch("onRim(0, greatest)", () -> furnished().onRim(0, Integer.MAX_VALUE));
        });
        Edge.of(15, none, "ahead of the first", () -> {
            Check.dueNothingSuch("onRim(0, -1)", () -> furnished().onRim(0, -1));
            Check.dueNothingSuch("onRim(0, least)", () -> furnished().onRim(0, Integer.MIN_VALUE));
        });
        Edge.of(15, none, "not lawful, no table, no slot", () -> {
            for (int s : NOT_LAWFUL_SLOTS) {
                Check.dueNothingSuch("onRim(" + s + ", 0)", () -> furnished().onRim(s, 0));
            }
        });
    }

    private static void layer() {
        Edge.of(16, "LAYER of a POINT", "the last point of ten",
            () -> Check.due("layer(0, 9)", with(DEEP).layer(0, 9), 3));
        Edge.of(16, "NONE: no LAWFUL TABLE", "not lawful, no table, no slot", () -> {
            for (int s : NOT_LAWFUL_SLOTS) {
                Check.due("layer(" + s + ", 0)", furnished().layer(s, 0), NONE);
            }
        });
        Edge.of(16, "or no such POINT", "-1, n and farther ones", () -> {
            for (int p : new int[] {-1, 5, 6, 10, 31, 32, 36, Integer.MIN_VALUE, Integer.MAX_VALUE}) {
                Check.due("layer(0, " + p + ")", furnished().layer(0, p), NONE);
            }
            Check.due("layer(0, 10) of ten", with(DEEP).layer(0, 10), NONE);
        });
    }

    private static void code() {
        String bytes = "OUT is the CODE, a byte for each TURN (1 LEFT, 2 RIGHT): how many";
        Edge.of(17, bytes, "one of three points, whichever way they turn", () -> {
            for (int bits : new int[] {0, 0x80000000}) {
                PointTables x = withBits(3, bits);
                Check.due("code(0)", x.code(0), 1);
                Check.due("OUT", outOf(x), "1");
            }
        });
        Edge.of(17, bytes, "120 of ten points", () -> {
            PointTables x = with(convex(10));
            x.mirror(1, 0);
            Check.due("code(1)", x.code(1), 120);
            Check.due("OUT", outOf(x), "1".repeat(120));
        });
        Edge.of(17, bytes, "a shorter one behind a longer one", () -> {
            PointTables x = with(convex(10));
            put(x, 1, TRIANGLE_FULL);
            x.code(0);
            Check.due("code(1)", x.code(1), 4);
            Check.due("OUT", outOf(x), "1112");
        });
        Edge.of(17, "NONE (OUT stays): no LAWFUL TABLE", "not lawful, no table, no slot", () -> {
            for (int s : NOT_LAWFUL_SLOTS) {
                Check.due("code(" + s + ")", furnished().code(s), NONE);
                dueStays("code(" + s + ")", BYTES, x -> x.code(s));
            }
        });
    }

    private static void named() {
        String row = "SLOT s is a TABLE whose ROW (by its own NAMES) is the CODE of t: true";
        Edge.of(18, row, "a slot of itself", () -> {
            PointTables x = with(INNER_FIRST);
            Check.due("named(0, 0)", x.named(0, 0), true);
            Check.due("the row", rowOf(x, 0), "1111111112");
        });
        Edge.of(18, row, "three points that turn RIGHT, and ten", () -> {
            PointTables x = withBits(3, 0x80000000);
            Check.due("named(5, 0)", x.named(5, 0), true);
            Check.due("the row", rowOf(x, 5), "1");
            put(x, 0, convex(10));
            x.mirror(0, 0);
            Check.due("named(5, 0)", x.named(5, 0), true);
            Check.due("the row", rowOf(x, 5), "1".repeat(120));
        });
        Edge.of(18, row, "OUT stays", () -> {
            PointTables x = furnished();
            x.named(5, 3);
            Check.due("OUT", outOf(x), "1111111112");
        });
        Edge.of(18, "false: as mirror()", "t has none, or there is no such slot", () -> {
            dueNotNamed(0, 4);
            dueNotNamed(4, 4);
            for (int s : WRONG_SLOTS) {
                dueNotNamed(s, 0);
                dueNotNamed(0, s);
            }
        });
        Edge.of(18, "or t is not LAWFUL", "into another slot and itself", () -> {
            dueNotNamed(0, 1);
            dueNotNamed(1, 1);
            dueNotNamed(4, 1);
        });
    }

    private static void dueNotNamed(int s, int t) {
        Check.due("named(" + s + ", " + t + ")", furnished().named(s, t), false);
        dueStays("named(" + s + ", " + t + ")", BYTES, x -> x.named(s, t));
    }

    private static void like() {
        Edge.of(19, "0 not LIKE", "as many points, or fewer, or more", () -> {
            PointTables x = with(convex(6));
            x.kind(1, 6, 1);
            put(x, 2, convex(5));
            Check.due("like(0, 1)", x.like(0, 1), 0);
            Check.due("like(0, 2)", x.like(0, 2), 0);
            Check.due("like(2, 0)", x.like(2, 0), 0);
            put(x, 3, convex(10));
            Check.due("like(3, 0)", x.like(3, 0), 0);
        });
        Edge.of(19, "1 LIKE by other NAMES alone", "of itself, and renamed", () -> {
            PointTables x = furnished(5, 3, 1, 0, 2, 4);
            x.rename(4, 3);
            Check.due("like(3, 3)", x.like(3, 3), 1);
            Check.due("like(3, 4)", x.like(3, 4), 1);
            Check.due("like(4, 3)", x.like(4, 3), 1);
        });
        Edge.of(19, "2 by a MIRROR alone", "mirrored, and renamed too", () -> {
            PointTables x = furnished(5, 3, 1, 0, 2, 4);
            x.rename(4, 3);
            x.mirror(5, 4);
            Check.due("like(3, 5)", x.like(3, 5), 2);
            Check.due("like(5, 3)", x.like(5, 3), 2);
            Check.due("like(4, 5)", x.like(4, 5), 2);
        });
        Edge.of(19, "3 both ways", "of itself, mirrored, three points and ten", () -> {
            PointTables x = furnished();
            x.mirror(4, 0);
            Check.due("like(0, 0)", x.like(0, 0), 3);
            Check.due("like(0, 4)", x.like(0, 4), 3);
            Check.due("like(2, 2)", x.like(2, 2), 3);
            put(x, 5, convex(10));
            Check.due("like(5, 5)", x.like(5, 5), 3);
        });
        Edge.of(19, "NONE: one is no LAWFUL TABLE", "the first, the second, or both", () -> {
            for (int s : NOT_LAWFUL_SLOTS) {
                Check.due("like(" + s + ", 0)", furnished().like(s, 0), NONE);
                Check.due("like(0, " + s + ")", furnished().like(0, s), NONE);
                Check.due("like(" + s + ", " + s + ")", furnished().like(s, s), NONE);
            }
        });
        Edge.of(19, "NONE: one is no LAWFUL TABLE", "though it has fewer points", () -> {
            Check.due("like(1, 3)", furnished().like(1, 3), NONE);
            Check.due("like(3, 1)", furnished().like(3, 1), NONE);
        });
    }
}

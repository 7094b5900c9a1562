import java.util.Arrays;
import java.util.List;

/** The sentences ahead of the promises that name a boundary. */
final class TermsEdges extends Bench {
    private TermsEdges() {
    }

    static void all() {
        object();
        tables();
        laws();
        rims();
        codes();
        sweeps();
        figures();
        throwing();
    }

    private static void object() {
        String calls = "An object is used for at most 512 calls after it has been made";
        Edge.of(0, calls, "the last of 512 behind flips", TermsEdges::lastBehindFlips);
        Edge.of(0, calls, "the last of 512 behind feeds", TermsEdges::lastBehindFeeds);
        Edge.of(0, calls, "the last of 512 behind tables of ten", TermsEdges::lastBehindTables);
        Edge.of(0, calls, "the last of 512 behind throws", TermsEdges::lastBehindThrows);
    }

    private static void lastBehindFlips() {
        PointTables x = with(TRIANGLE);
        // with() has made four calls.
        for (int i = 0; i < 507; i++) {
            x.flip(0, 0, 1, 2);
        }
        Check.due("turn() as call 512", x.turn(0, 0, 1, 2), -1);
    }

    private static void lastBehindFeeds() {
        PointTables x = new PointTables();
        for (int i = 0; i < 255; i++) {
            x.feed(i, i, i, i, i);
            x.end(i % 20);
        }
        x.end(0);
        Check.due("feed() as call 512", x.feed(0, 0, 0, 0, 0), 20);
    }

    private static void lastBehindTables() {
        PointTables x = new PointTables();
        for (int i = 0; i < 170; i++) {
            x.feed(0x00000000, 0x00010001, 0x00020004, 0x00030009, 0x00040010);
            x.feed(0x00050019, 0x00060024, 0x00070031, 0x00080040, 0x00090051);
            x.place(i % 6);
        }
        x.code(5);
        Check.due("octet(119) as call 512", octetOr(x, 119), 1);
    }

    private static void lastBehindThrows() {
        PointTables x = new PointTables();
        for (int i = 0; i < 511; i++) {
            octetOr(x, i);
        }
        Check.dueNothingSuch("onRim(0, 0) as call 512", () -> x.onRim(0, 0));
    }

    private static void tables() {
        String size = "A TABLE has n POINTS 0 .. n - 1 (n 3 to 10)";
        Edge.of(0, size, "2 are too few", () -> dueTableOf(2, false));
        Edge.of(0, size, "3 to 10, of which n - 1 is the last", TermsEdges::sizes);
        Edge.of(0, size, "11 are too many", () -> dueTableOf(11, false));
        Edge.of(0, "two of the three exchanged, it is the other one", "all orders", TermsEdges::exchanged);
        String slots = "TABLES lie in SLOTS 0 .. 5 (none at first)";
        Edge.of(0, slots, "each of the six has its own", TermsEdges::sixSlots);
        Edge.of(0, slots, "-1 and 6 are none", TermsEdges::noSlots);
        Edge.of(0, slots, "none at first", TermsEdges::noneAtFirst);
        String places = "POINTS at places x, y (whole numbers -10000 to 10000)";
        Edge.of(0, places, "-10000 and 10000 are in", () -> duePlaced(0, -10000, 10000));
        Edge.of(0, places, "-10001 and 10001 are out", () -> duePlaced(1, -10001, 10001));
        Edge.of(0, places, "-32768 and 32767 are out", () -> duePlaced(1, -32768, 32767));
        Edge.of(0, "is above 0, RIGHT if below", "1 and -1 of near places", () -> {
            dueTurnOf(1, 0, 0, 1, 0, 0, 1);
            dueTurnOf(-1, 0, 0, 0, 1, 1, 0);
        });
        Edge.of(0, "is above 0, RIGHT if below", "1 and -1 of the farthest places", () -> {
            dueTurnOf(1, -10000, -10000, 9999, 9998, -9999, -9999);
            dueTurnOf(-1, -10000, -10000, 9999, 9998, 9998, 9997);
            dueTurnOf(1, 10000, 10000, -9999, -9998, 9999, 9999);
            dueTurnOf(-1, 10000, 10000, -9999, -9998, -9998, -9997);
        });
        Edge.of(0, "is above 0, RIGHT if below", "the greatest and the least", () -> {
            dueTurnOf(1, -10000, -10000, 10000, -10000, 10000, 10000);
            dueTurnOf(-1, -10000, -10000, 10000, 10000, 10000, -10000);
            dueTurnOf(1, 10000, -10000, 0, 10000, -10000, -10000);
        });
        Edge.of(0, "none of these may be 0", "on a line through the farthest places", () ->
            Check.due("place(0)", put(new PointTables(), 0, -10000, -10000, 0, 0, 10000, 10000), 2));
        Edge.of(0, "none of these may be 0", "two or three at one place", () -> {
            Check.due("place(0)", put(new PointTables(), 0, 5, 5, 5, 5, 1, 0), 2);
            Check.due("place(0)", put(new PointTables(), 0, 1, 0, 5, 5, 5, 5), 2);
            Check.due("place(0)", put(new PointTables(), 0, 5, 5, 1, 0, 5, 5), 2);
            Check.due("place(0)", put(new PointTables(), 0, 0, 0, 0, 0, 0, 0), 2);
        });
    }

    private static void dueTableOf(int n, boolean want) {
        PointTables x = new PointTables();
        tape(x, new int[140]);
        Check.due("table(0, " + n + ")", x.table(0, n), want);
        Check.due("points(0)", x.points(0), want ? n : 0);
    }

    private static void sizes() {
        for (int n = 3; n <= 10; n++) {
            dueTableOf(n, true);
            PointTables x = with(convex(n));
            Check.due("turn 0, 1 and the last of " + n, x.turn(0, 0, 1, n - 1), 1);
            Check.due("turn 0, 1 and " + n + " of " + n, x.turn(0, 0, 1, n), 0);
            Check.due("turn 0, 1 and -1", x.turn(0, 0, 1, -1), 0);
        }
    }

    private static void exchanged() {
        PointTables x = with(INNER_FIRST);
        x.feed(0x5a5a5a5a, 0, 0, 0, 0);
        x.table(1, 5);
        tape(x, 0, 2, 1, 0, 2, 1);
        x.swept(2, 4);
        x.flip(0, 4, 1, 3);
        for (int s = 0; s < 3; s++) {
            int n = x.points(s);
            for (int i = 0; i < n; i++) {
                for (int j = i + 1; j < n; j++) {
                    dueExchanged(x, s, i, j, (j + 1) % n == i ? (j + 2) % n : (j + 1) % n);
                }
            }
        }
    }

    private static void dueExchanged(PointTables x, int s, int i, int j, int k) {
        int turn = x.turn(s, i, j, k);
        String three = " of slot " + s + ", " + i + " " + j + " " + k;
        Check.due("a turn" + three, turn == 1 || turn == -1, true);
        Check.due("j i k" + three, x.turn(s, j, i, k), -turn);
        Check.due("i k j" + three, x.turn(s, i, k, j), -turn);
        Check.due("k j i" + three, x.turn(s, k, j, i), -turn);
        Check.due("j k i" + three, x.turn(s, j, k, i), turn);
        Check.due("k i j" + three, x.turn(s, k, i, j), turn);
    }

    private static void sixSlots() {
        PointTables x = new PointTables();
        for (int s = 0; s < 6; s++) {
            Check.due("place(" + s + ")", put(x, s, convex(3 + s)), 0);
        }
        for (int s = 0; s < 6; s++) {
            Check.due("points(" + s + ")", x.points(s), 3 + s);
        }
    }

    private static void noSlots() {
        for (int s : WRONG_SLOTS) {
            PointTables x = new PointTables();
            Check.due("place(" + s + ")", put(x, s, TRIANGLE), 1);
            Check.due("points(" + s + ")", x.points(s), 0);
        }
    }

    private static void noneAtFirst() {
        for (int s = 0; s < 6; s++) {
            Check.due("points(" + s + ")", new PointTables().points(s), 0);
        }
    }

    /** Three points, of which each number in turn is the one or the other. */
    private static void duePlaced(int want, int least, int greatest) {
        for (int at = 0; at < 6; at++) {
            for (int number : new int[] {least, greatest}) {
                int[] numbers = {1, 2, 3, 7, 8, 4};
                numbers[at] = number;
                Check.due(number + " as number " + at, put(new PointTables(), 0, numbers), want);
            }
        }
    }

    private static void dueTurnOf(int want, int... numbers) {
        Check.due("turn 0 1 2", with(numbers).turn(0, 0, 1, 2), want);
        PointTables x = with(numbers[4], numbers[5], numbers[0], numbers[1], numbers[2], numbers[3]);
        Check.due("turn 0 1 2, the last place first", x.turn(0, 0, 1, 2), want);
    }

    private static void laws() {
        String four = "(FOUR) of no four POINTS a, b, c, d the TURNS a b d, b c d, c a d are LEFT and a b c is RIGHT";
        Edge.of(0, four, "three points are too few to break it", () -> {
            Check.due("lawful(0) of LEFT", withBits(3, 0).lawful(0), 1);
            Check.due("lawful(0) of RIGHT", withBits(3, 0x80000000).lawful(0), 1);
        });
        Edge.of(0, four, "all tables of four", () -> {
            for (int row = 0; row < 16; row++) {
                int want = row == 0b0101 || row == 0b1010 ? 0 : 1;
                Check.due("lawful(0) of row " + row, withBits(4, row << 28).lawful(0), want);
            }
        });
        Edge.of(0, four, "in whatever order", TermsEdges::fourInAnyOrder);
        String five = "(FIVE) of no five a, b, c, d, e with three numbers u = abc ade, v = - abd ace, w = abe acd "
                + "(TURNS multiplied) all three are the same number";
        Edge.of(0, five, "all tables of five", TermsEdges::allOfFive);
        Edge.of(0, five, "each point as the one that is in all turns", TermsEdges::fiveByEachPoint);
    }

    private static void fourInAnyOrder() {
        for (List<Integer> order : Oracle.orders(List.of(0, 1, 2, 3))) {
            PointTables x = withBits(4, NOT_LAWFUL);
            tape(x, order.get(0), order.get(1), order.get(2), order.get(3));
            Check.due("rename(1, 0) by " + order, x.rename(1, 0), true);
            Check.due("lawful(1) by " + order, x.lawful(1), 0);
        }
    }

    private static void allOfFive() {
        for (int row = 0; row < 1024; row++) {
            int why = Oracle.Turns.ofRow(5, Oracle.rowOf(row, 10)).why();
            Check.due("why(0) of row " + row, withBits(5, row << 22).why(0), why);
        }
    }

    /** In rows 32 and 40 the numbers are the same by 0 and 4 alone, in the others by two others. */
    private static void fiveByEachPoint() {
        for (int row : new int[] {2, 4, 6, 9, 22, 25, 32, 40, 52, 66, 68, 75}) {
            PointTables x = withBits(5, row << 22);
            Check.due("lawful(0) of row " + row, x.lawful(0), 0);
            for (int p = 0; p < 5; p++) {
                x.without(1, 0, p);
                Check.due("lawful(1) of row " + row + " without " + p, x.lawful(1), 1);
            }
        }
    }

    private static void rims() {
        String rim = "a POINT i is on the RIM, if there is a j such that i, j, k turns LEFT for each other k: j "
                + "is NEXT to i";
        Edge.of(0, rim, "of three points all are, either way round", () -> {
            Check.due("the rim of LEFT", rimOf(withBits(3, 0), 0), "012");
            Check.due("the rim of RIGHT", rimOf(withBits(3, 0x80000000), 0), "021");
        });
        Edge.of(0, rim, "all of ten", () -> Check.due("the rim", rimOf(with(convex(10)), 0), "0123456789"));
        Edge.of(0, rim, "three of ten", () -> Check.due("the rim", rimOf(with(DEEP), 0), "012"));
        Edge.of(0, rim, "a place within a side of the rim, or beyond it", TermsEdges::besideSides);
        String begins = "The RIM begins with its least POINT, and goes on by NEXT";
        Edge.of(0, begins, "the least point being 1", () ->
            Check.due("the rim", rimOf(with(INNER_FIRST), 0), "1432"));
        Edge.of(0, begins, "the least point being the last but two", () ->
            Check.due("the rim", rimOf(with(-1, 0, 0, 1, 1, -1, -99, -99, 99, -98, 1, 99), 0), "345"));
        Edge.of(0, begins, "from the last one it goes on to the first", TermsEdges::rimCloses);
        String layer = "LAYER of a POINT: 0 on the RIM; else 1 and the LAYER that it has among those that are not";
        Edge.of(0, layer, "all are on the rim",
            () -> Check.due("layers", layersOf(with(convex(10)), 0), "0000000000"));
        Edge.of(0, layer, "four layers of ten points",
            () -> Check.due("layers", layersOf(with(DEEP), 0), "0001112223"));
        String left = "(of two POINTS or one that are left, all are on their RIM)";
        Edge.of(0, left, "one is left", () -> Check.due("layers", layersOf(with(TRIANGLE_FULL), 0), "0001"));
        Edge.of(0, left, "two are left", () -> Check.due("layers", layersOf(withBits(5, 7 << 22), 0), "00110"));
        Edge.of(0, left, "two are left in the third layer", () ->
            Check.due("layers", layersOf(with(NESTED), 0), "00011122"));
        Edge.of(0, left, "three are left", () -> {
            PointTables x = with(DEEP);
            x.without(1, 0, 9);
            Check.due("layers", layersOf(x, 1), "000111222");
        });
    }

    private static void besideSides() {
        int[][] sides = {{50, 1}, {50, -1}, {51, 50}, {50, 49}, {1, 50}, {-1, 50}};
        for (int i = 0; i < sides.length; i++) {
            PointTables x = with(0, 0, 100, 0, 0, 100, sides[i][0], sides[i][1]);
            boolean beyond = i == 1 || i == 2 || i == 5;
            Check.due("rim(0) by side " + i, x.rim(0), beyond ? 4 : 3);
            Check.due("layer(0, 3) by side " + i, x.layer(0, 3), beyond ? 0 : 1);
        }
    }

    private static void rimCloses() {
        PointTables x = with(INNER_FIRST);
        String rim = rimOf(x, 0);
        for (int at = 0; at < rim.length(); at++) {
            int i = rim.charAt(at) - '0';
            int j = rim.charAt((at + 1) % rim.length()) - '0';
            for (int k = 0; k < 5; k++) {
                Check.due("turn " + i + " " + j + " " + k, x.turn(0, i, j, k), k == i || k == j ? 0 : 1);
            }
        }
        Check.due("the rim's points", rim.length(), 4);
    }

    private static void codes() {
        String names = "r is 0, NEXT to r is 1, then the others, in the order in which they lie around r "
                + "(p ahead of q, if r, p, q turns LEFT)";
        Edge.of(0, names, "all turns of 0 are LEFT by them", TermsEdges::turnsOfFirst);
        String row = "the TURNS of 0 1 2, 0 1 3, .. 0 1 n-1, 0 2 3, .. n-3 n-2 n-1 by them";
        Edge.of(0, row, "three points have one", () -> Check.due("row", rowOf(withBits(3, 0xc0000000), 0), "2"));
        Edge.of(0, row, "each of the 120 of ten points at its place", TermsEdges::eachTurnOfTen);
        String code = "the first of all ROWS of the TABLE and of its MIRROR (all TURNS the other way) by all "
                + "POINTS of their RIMS";
        Edge.of(0, code, "whichever point of the rim it comes from", () -> dueCodesOfKinds(false));
        Edge.of(0, code, "where it comes from the mirror", () -> dueCodesOfKinds(true));
        Edge.of(0, "(LEFT is ahead of RIGHT where they are first unlike)", "rows that are unlike early",
            TermsEdges::leftAhead);
        Edge.of(0, "Two TABLES are LIKE, if their CODES are the same", "all kinds of six points",
            TermsEdges::likeKinds);
    }

    private static void turnsOfFirst() {
        int[][] heaps = {TRIANGLE, TRIANGLE_FULL, INNER_FIRST, HEXAGON, NESTED, DEEP};
        for (int[] places : heaps) {
            PointTables x = with(places);
            int n = x.points(0);
            Check.due("named(1, 0)", x.named(1, 0), true);
            for (int j = 1; j < n; j++) {
                for (int k = j + 1; k < n; k++) {
                    Check.due("turn 0 " + j + " " + k + " of " + n, x.turn(1, 0, j, k), 1);
                }
            }
        }
    }

    private static void eachTurnOfTen() {
        for (int at = 0; at < 120; at++) {
            PointTables x = new PointTables();
            int[] bytes = new int[15];
            bytes[at / 8] = 128 >> at % 8;
            tape(x, bytes);
            x.table(0, 10);
            Check.due("the row", rowOf(x, 0), "1".repeat(at) + "2" + "1".repeat(119 - at));
        }
    }

    private static void dueCodesOfKinds(boolean mirrored) {
        for (int k = 0; k < 16; k++) {
            for (int first = 0; first < 6; first++) {
                PointTables x = new PointTables();
                x.kind(0, 6, k);
                tape(x, first, (first + 1) % 6, (first + 2) % 6, (first + 3) % 6, (first + 4) % 6, (first + 5) % 6);
                x.rename(1, 0);
                if (mirrored) {
                    x.mirror(1, 1);
                }
                Check.due("code(1)", x.code(1), 20);
                Check.due("OUT of kind " + k + " from " + first, outOf(x), rowOf(x, 0));
            }
        }
    }

    /** The rows of the second by 0, 1, 3, 4: 1111112111, 1111112211, 1111111122, 1111111112. */
    private static void leftAhead() {
        PointTables x = with(SQUARE);
        x.code(0);
        Check.due("OUT of a square with a point", outOf(x), "1111111112");
        PointTables y = withBits(5, 8 << 22);
        y.code(0);
        Check.due("OUT of row 1111112111", outOf(y), "1111111112");
    }

    private static void likeKinds() {
        for (int k = 0; k < 16; k++) {
            PointTables x = new PointTables();
            x.kind(0, 6, k);
            for (int other = 0; other < 16; other++) {
                x.kind(1, 6, other);
                Check.due("like(0, 1) of kinds " + k + " and " + other, x.like(0, 1) > 0, k == other);
            }
        }
    }

    private static void sweeps() {
        String row = "a row of n (n - 1) / 2 places 0 .. n - 2";
        Edge.of(0, row, "the last place is n - 2", () -> {
            dueSwept(3, true, 1, 0, 1);
            dueSwept(10, true, turned(10));
        });
        Edge.of(0, row, "n - 1 is beyond it", () -> {
            dueSwept(3, false, 2, 0, 1);
            dueSwept(3, false, 1, 0, 2);
            int[] beyond = turned(10);
            beyond[0] = 9;
            dueSwept(10, false, beyond);
        });
        Edge.of(0, row, "one too few", () -> {
            dueSwept(3, false, 0, 1);
            dueSwept(10, false, Arrays.copyOf(sweepOf(10), 44));
        });
        Edge.of(0, row, "one too many", () -> {
            dueSwept(3, false, 0, 1, 0, 1);
            dueSwept(10, false, Arrays.copyOf(sweepOf(10), 46));
        });
        String lesser = "the one of the two that is ahead must be the lesser one (so each two are swapped once)";
        Edge.of(0, "beginning with the order 0, 1, .. n - 1, those at that place and the one behind it are swapped",
            "at the first and at the last place", () -> {
                dueSweptRow("1111", 0, 1, 2, 0, 1, 0);
                dueSweptRow("2222", 2, 1, 0, 2, 1, 2);
                dueSweptRow("1122", 0, 2, 1, 0, 2, 1);
            });
        Edge.of(0, lesser, "swapped back at once", () -> dueSwept(3, false, 0, 0, 1));
        Edge.of(0, lesser, "swapped back at the last step", () -> dueSwept(3, false, 0, 1, 1));
        Edge.of(0, "is LEFT, if i and j are swapped ahead of j and k, else RIGHT", "of three points", () -> {
            Check.due("turn 0 1 2, 0 and 1 first", sweptTurn(0, 1, 0), 1);
            Check.due("turn 0 1 2, 1 and 2 first", sweptTurn(1, 0, 1), -1);
        });
        Edge.of(0, "step by step the least place", "where two would do", TermsEdges::leastPlaces);
        Edge.of(0, "tells: LEFT: i j, i k, j k; RIGHT: j k, i k, i j", "a sweep that is found makes its table again",
            TermsEdges::sweepsReadAgain);
        String none = "There is none, if at a step there is no such place";
        Edge.of(0, none, "at the first step", () -> dueNoSweep(4, 0b0100 << 28));
        Edge.of(0, none, "at the second step", () -> dueNoSweep(4, 0b0010 << 28));
        Edge.of(0, none, "at the sixth step of ten", () -> dueNoSweep(5, 2 << 22));
        Edge.of(0, none, "of all tables of four 8 have one, of five 62", TermsEdges::countSweeps);
    }

    /** The sweep that begins at the last place. */
    private static int[] turned(int n) {
        int[] row = sweepOf(n);
        for (int at = 0; at < row.length; at++) {
            row[at] = n - 2 - row[at];
        }
        return row;
    }

    private static void dueSwept(int n, boolean want, int... bytes) {
        PointTables x = new PointTables();
        tape(x, bytes);
        Check.due("swept(0, " + n + ") of " + Arrays.toString(bytes), x.swept(0, n), want);
        Check.due("points(0)", x.points(0), want ? n : 0);
    }

    private static void dueSweptRow(String row, int... bytes) {
        PointTables x = new PointTables();
        tape(x, bytes);
        Check.due("swept(0, 4)", x.swept(0, 4), true);
        Check.due("the row", rowOf(x, 0), row);
    }

    private static int sweptTurn(int... bytes) {
        PointTables x = new PointTables();
        tape(x, bytes);
        x.swept(0, 3);
        return x.turn(0, 0, 1, 2);
    }

    private static void leastPlaces() {
        PointTables x = new PointTables();
        tape(x, 2, 0, 1, 2, 0, 1);
        x.swept(0, 4);
        Check.due("sweep(0)", x.sweep(0), 6);
        Check.due("OUT", outOf(x), "021021");
    }

    /** All tables of three to five that have a sweep. */
    private static void sweepsReadAgain() {
        for (int n = 3; n <= 5; n++) {
            for (int row = 0; row < 1 << turnsOf(n); row++) {
                PointTables x = withBits(n, row << 32 - turnsOf(n));
                int[] places = new int[Math.max(0, x.sweep(0))];
                for (int k = 0; k < places.length; k++) {
                    places[k] = octetOr(x, k);
                }
                tape(x, places);
                boolean again = x.swept(1, n);
                Check.due("the row of sweep " + Arrays.toString(places), rowOf(x, 1), again ? rowOf(x, 0) : "");
            }
        }
    }

    private static void dueNoSweep(int n, int bits) {
        PointTables x = withBits(n, bits);
        Check.due("sweep(0)", x.sweep(0), NONE);
        Check.due("OUT", outOf(x), "");
    }

    /** So many as there are ways to draw so many lines that cross each other once. */
    private static void countSweeps() {
        int[] want = {0, 0, 0, 2, 8, 62};
        for (int n = 3; n <= 5; n++) {
            int have = 0;
            for (int row = 0; row < 1 << turnsOf(n); row++) {
                have += withBits(n, row << 32 - turnsOf(n)).sweep(0) == n * (n - 1) / 2 ? 1 : 0;
            }
            Check.due("tables of " + n + " with a sweep", have, want[n]);
        }
    }

    private static void figures() {
        String figure = "so many POINTS (3 to 6) all of which are on the RIM of these POINTS alone";
        Edge.of(0, figure, "all points of the table", () -> {
            for (int n = 3; n <= 6; n++) {
                Check.due("figures(0, " + n + ", false)", with(convex(n)).figures(0, n, false), 1);
            }
        });
        Edge.of(0, figure, "one point of them within the others", () -> {
            Check.due("figures(0, 4, false)", with(TRIANGLE_FULL).figures(0, 4, false), 0);
            Check.due("figures(0, 5, false)", with(INNER_FIRST).figures(0, 5, false), 0);
        });
        String empty = "EMPTY, if no other POINT lies INSIDE";
        Edge.of(0, empty, "there is no other point", () ->
            Check.due("figures(0, 6, true)", with(convex(6)).figures(0, 6, true), 1));
        Edge.of(0, empty, "one lies inside the whole", () -> {
            Check.due("figures(0, 3, true)", with(TRIANGLE_FULL).figures(0, 3, true), 3);
            Check.due("figures(0, 4, true)", with(SQUARE).figures(0, 4, true), 2);
        });
        String inside = "a POINT p lies INSIDE, if i, j, p turns LEFT for each i of them and the j NEXT to it "
                + "among these";
        Edge.of(0, inside, "beside each side, within and beyond", TermsEdges::insideBySides);
        String lines = "LINES through two POINTS i < j by how many other POINTS k turn i, j, k LEFT";
        Edge.of(0, lines, "from none to all others", TermsEdges::linesFromNoneToAll);
        String kinds = "all CODES of LAWFUL TABLES of n POINTS, in order";
        Edge.of(0, kinds, "each is a code, and behind the one ahead of it", TermsEdges::kindsInOrder);
        Edge.of(0, kinds, "all tables of three, four and five are of one", TermsEdges::allOfKinds);
    }

    private static void insideBySides() {
        int[][] beside = {{50, 1}, {50, -1}, {51, 50}, {50, 49}, {1, 50}, {-1, 50}};
        for (int i = 0; i < beside.length; i++) {
            PointTables x = with(0, 0, 100, 0, 0, 100, beside[i][0], beside[i][1]);
            boolean beyond = i == 1 || i == 2 || i == 5;
            Check.due("empty threes, the fourth by side " + i, x.figures(0, 3, true), beyond ? 4 : 3);
        }
    }

    private static void linesFromNoneToAll() {
        PointTables x = with(convex(10));
        // The line through i and j has to its LEFT those behind j and those ahead of i.
        for (int left = 0; left <= 8; left++) {
            Check.due("lines(0, " + left + ")", x.lines(0, left), left + 1);
        }
        x.mirror(1, 0);
        Check.due("lines(1, 0) of the mirror", x.lines(1, 0), 9);
        Check.due("lines(1, 8) of the mirror", x.lines(1, 8), 1);
    }

    private static void kindsInOrder() {
        for (int n = 3; n <= 6; n++) {
            String last = "";
            for (int k = 0; k < new PointTables().kinds(n); k++) {
                PointTables x = new PointTables();
                x.kind(0, n, k);
                x.code(0);
                String row = rowOf(x, 0);
                Check.due("the code of kind " + k + " of " + n, outOf(x), row);
                Check.due("kind " + k + " of " + n + " is behind the one ahead", last.compareTo(row) < 0, true);
                last = row;
            }
        }
    }

    private static void allOfKinds() {
        for (int n = 3; n <= 5; n++) {
            int[] counts = new int[3];
            for (int row = 0; row < 1 << turnsOf(n); row++) {
                PointTables x = withBits(n, row << 32 - turnsOf(n));
                int kind = x.which(0);
                Check.due("which(0) of row " + row + " is one", kind >= 0 && kind < x.kinds(n), x.lawful(0) == 1);
                if (kind >= 0 && kind < counts.length) {
                    counts[kind]++;
                }
            }
            int[] want = n == 3 ? new int[] {2, 0, 0} : n == 4 ? new int[] {6, 8, 0} : new int[] {24, 120, 120};
            Check.due("tables of each kind of " + n, Arrays.toString(counts), Arrays.toString(want));
        }
    }

    private static void throwing() {
        String nothing = "A call that throws changes nothing.";
        int[] bytes = {1, 2, 3, 4};
        Edge.of(0, nothing, "octet()", () -> {
            dueStays("octet(10)", bytes, x -> octetOr(x, 10));
            dueStays("octet(-1)", bytes, x -> octetOr(x, -1));
        });
        Edge.of(0, nothing, "onRim()", () -> {
            dueStays("onRim(0, 4)", bytes, x -> onRimOr(x, 0, 4));
            dueStays("onRim(1, 0)", bytes, x -> onRimOr(x, 1, 0));
            dueStays("onRim(5, 0)", bytes, x -> onRimOr(x, 5, 0));
            dueStays("onRim(6, 0)", bytes, x -> onRimOr(x, 6, 0));
        });
    }
}

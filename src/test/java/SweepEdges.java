import java.util.Arrays;

/** Promises 20 to 22: the sentences that name a boundary. */
final class SweepEdges extends Bench {
    private SweepEdges() {
    }

    static void all() {
        swept();
        sweep();
        octet();
    }

    private static void swept() {
        String table = "SLOT s is the TABLE of the SWEEP of n POINTS that is on the tape: true";
        Edge.of(20, table, "of each n from 3 to 10", () -> {
            for (int n = 3; n <= 10; n++) {
                PointTables x = new PointTables();
                tape(x, sweepOf(n));
                Check.due("swept(0, " + n + ")", x.swept(0, n), true);
                Check.due("the row", rowOf(x, 0), "1".repeat(turnsOf(n)));
            }
        });
        Edge.of(20, table, "what else can be asked of it, of 3 points and of 10", () -> {
            for (int n : new int[] {3, 10}) {
                PointTables x = new PointTables();
                tape(x, sweepOf(n));
                x.swept(0, n);
                Check.due("rim(0)", x.rim(0), n);
                for (int left = 0; left <= n - 2; left++) {
                    Check.due("lines(0, " + left + ")", x.lines(0, left), left + 1);
                }
                Check.due("code(0)", x.code(0), turnsOf(n));
                Check.due("OUT", outOf(x), "1".repeat(turnsOf(n)));
            }
        });
        Edge.of(20, table, "in the place of another table", () -> {
            PointTables x = furnished(1, 0, 1);
            Check.due("swept(3, 3)", x.swept(3, 3), true);
            Check.due("the row", rowOf(x, 3), "2");
        });
        Edge.of(20, table, "behind one that was begun and is none", () -> {
            PointTables x = new PointTables();
            tape(x, 2, 1, 0, 2, 1, 1);
            Check.due("swept(0, 4)", x.swept(0, 4), false);
            tape(x, 0, 1, 2, 0, 1, 0);
            Check.due("swept(0, 4)", x.swept(0, 4), true);
            Check.due("the row", rowOf(x, 0), "1111");
        });
        String noSlot = "false, and it stays: no such SLOT";
        Edge.of(20, noSlot, "-1, 6 and farther ones", () -> {
            for (int s : WRONG_SLOTS) {
                dueNotSwept(s, 3, 0, 1, 0);
            }
        });
        Edge.of(20, "n (3 to 10)", "2, 11 and farther ones", () -> {
            dueNotSwept(0, 2, 0);
            dueNotSwept(0, 11, sweepOf(11));
            dueNotSwept(0, 1);
            dueNotSwept(0, 0);
            dueNotSwept(0, -1, 0);
            dueNotSwept(0, -2, 0, 1, 0);
            dueNotSwept(0, Integer.MIN_VALUE);
            dueNotSwept(0, Integer.MAX_VALUE);
            dueNotSwept(0, 65536);
        });
        String none = "or it is no SWEEP";
        Edge.of(20, none, "an empty tape", () -> dueNotSwept(0, 3));
        Edge.of(20, none, "a step too few, or too many", () -> {
            dueNotSwept(0, 4, Arrays.copyOf(sweepOf(4), 5));
            dueNotSwept(0, 4, Arrays.copyOf(sweepOf(4), 7));
            dueNotSwept(0, 10, Arrays.copyOf(sweepOf(10), 44));
            dueNotSwept(0, 10, Arrays.copyOf(sweepOf(10), 46));
            dueNotSwept(0, 10, new int[140]);
        });
        Edge.of(20, none, "a sweep of fewer or more points", () -> {
            dueNotSwept(0, 4, sweepOf(3));
            dueNotSwept(0, 4, sweepOf(5));
        });
        Edge.of(20, none, "a place n - 1, or beyond", () -> {
            for (int q : new int[] {2, 3, 127, 128, 254, 255}) {
                dueNotSwept(0, 3, q, 1, 0);
                dueNotSwept(0, 3, 0, 1, q);
            }
        });
        Edge.of(20, none, "two that are swapped already", () -> {
            dueNotSwept(0, 3, 0, 0, 1);
            dueNotSwept(0, 3, 1, 0, 0);
            dueNotSwept(0, 3, 0, 1, 1);
        });
    }

    private static void dueNotSwept(int s, int n, int... bytes) {
        String call = "swept(" + s + ", " + n + ") of " + Arrays.toString(bytes);
        Check.due(call, furnished(bytes).swept(s, n), false);
        dueTakesTapeAlone(call, bytes, x -> x.swept(s, n));
    }

    private static void sweep() {
        String bytes = "OUT is the SWEEP of the TABLE (LAWFUL or not), a byte for each place: how many";
        Edge.of(21, bytes, "3 of three points", () -> {
            dueSweep(withBits(3, 0), "010");
            dueSweep(withBits(3, 0x80000000), "101");
        });
        Edge.of(21, bytes, "45 of ten points", () -> {
            dueSweep(with(convex(10)), "010210321043210543210654321076543210876543210");
        });
        Edge.of(21, bytes, "of a table that is not lawful there is none", () -> {
            for (int row = 0; row < 1024; row++) {
                PointTables x = withBits(5, row << 22);
                if (x.lawful(0) == 0) {
                    Check.due("sweep(0) of row " + row, x.sweep(0), NONE);
                }
            }
        });
        Edge.of(21, bytes, "a shorter one behind a longer one", () -> {
            PointTables x = with(convex(10));
            put(x, 1, TRIANGLE);
            x.sweep(0);
            Check.due("sweep(1)", x.sweep(1), 3);
            Check.due("OUT", outOf(x), "010");
        });
        Edge.of(21, "NONE (OUT stays): there is none", "of a lawful table, and of another", () -> {
            PointTables x = withBits(4, 0b0010 << 28);
            Check.due("lawful(0)", x.lawful(0), 1);
            Check.due("sweep(0)", x.sweep(0), NONE);
            Check.due("sweep(1)", furnished().sweep(1), NONE);
            dueStays("sweep(1)", new int[] {1}, y -> y.sweep(1));
        });
        Edge.of(21, "NONE (OUT stays): there is none", "broken off at a later step", () -> {
            PointTables x = furnished();
            x.feed(2 << 22, 0, 0, 0, 0);
            x.table(5, 5);
            Check.due("sweep(5)", x.sweep(5), NONE);
            Check.due("OUT", outOf(x), "1111111112");
        });
        Edge.of(21, "NONE (OUT stays): there is none", "of ten points, broken off at the first step and a later one",
            () -> {
            // In a table that has a sweep 0 is on the rim; here it is not.
            PointTables x = with(0, 0, 10, 1, 8, 7, 3, 10, -4, 9, -9, 4, -10, -3, -6, -8, 1, -11, 7, -7);
            Check.due("rim(0)", x.rim(0), 9);
            Check.due("sweep(0)", x.sweep(0), NONE);
            PointTables y = with(convex(10));
            y.sweep(0);
            y.flip(0, 0, 1, 5);
            Check.due("sweep(0), one turn being another", y.sweep(0), NONE);
            Check.due("octet(44)", octetOr(y, 44), 0);
        });
        Edge.of(21, "NONE (OUT stays): there is none", "of few points behind a sweep of many", () -> {
            PointTables x = with(convex(10));
            for (int bits : new int[] {0b0100, 0b0010, 0b1011, 0b1101}) {
                Check.due("sweep(0)", x.sweep(0), 45);
                x.feed(bits << 28, 0, 0, 0, 0);
                x.table(1, 4);
                Check.due("sweep(1)", x.sweep(1), NONE);
            }
        });
        Edge.of(21, "or no TABLE", "an empty slot, or no slot", () -> {
            for (int s : new int[] {4, 5, -1, 6, 7, Integer.MIN_VALUE, Integer.MAX_VALUE}) {
                Check.due("sweep(" + s + ")", furnished().sweep(s), NONE);
                dueStays("sweep(" + s + ")", new int[] {1}, x -> x.sweep(s));
            }
        });
    }

    private static void dueSweep(PointTables x, String places) {
        Check.due("sweep(0)", x.sweep(0), places.length());
        Check.due("OUT", outOf(x), places);
    }

    private static void octet() {
        String kth = "Byte k of OUT.";
        Edge.of(22, kth, "the first and the last", () -> {
            PointTables x = with(TRIANGLE_FULL);
            x.code(0);
            Check.due("octet(0)", octetOr(x, 0), 1);
            Check.due("octet(3)", octetOr(x, 3), 2);
        });
        Edge.of(22, kth, "the latest of code() and sweep()", () -> {
            PointTables x = withBits(3, 0x80000000);
            x.sweep(0);
            Check.due("OUT", outOf(x), "101");
            x.code(0);
            Check.due("OUT", outOf(x), "1");
            x.sweep(0);
            Check.due("OUT", outOf(x), "101");
        });
        Edge.of(22, kth, "OUT is as it was made, though the table be another now", () -> {
            PointTables x = withBits(3, 0x80000000);
            x.sweep(0);
            x.flip(0, 0, 1, 2);
            x.kind(0, 6, 15);
            x.swept(0, 3);
            Check.due("OUT", outOf(x), "101");
        });
        String none = "NoSuchElementException: there is none such.";
        Edge.of(22, none, "an empty OUT", () -> Check.dueNothingSuch("octet(0)", () -> with(SQUARE).octet(0)));
        Edge.of(22, none, "behind the last", () -> {
            Check.dueNothingSuch("octet(10)", () -> furnished().octet(10));
            Check.dueNothingSuch("octet(11)", () -> furnished().octet(11));
            Check.dueNothingSuch("octet(greatest)", () -> furnished().octet(Integer.MAX_VALUE));
        });
        Edge.of(22, none, "behind the last of 120", () -> {
            PointTables x = with(convex(10));
            x.code(0);
            Check.due("octet(119)", octetOr(x, 119), 1);
            Check.dueNothingSuch("octet(120)", () -> x.octet(120));
        });
        Edge.of(22, none, "ahead of the first", () -> {
            Check.dueNothingSuch("octet(-1)", () -> furnished().octet(-1));
            Check.dueNothingSuch("octet(least)", () -> furnished().octet(Integer.MIN_VALUE));
        });
    }
}

import java.util.Arrays;

/** Promises 1 to 6: the sentences that name a boundary. */
final class TapeEdges extends Bench {
    private TapeEdges() {
    }

    static void all() {
        newObject();
        feed();
        end();
        tapeTaken();
        place();
        line();
        table();
    }

    private static void newObject() {
        String sentence = "No TABLES; an empty tape, OUT.";
        Edge.of(1, sentence, "no tables", TapeEdges::noTables);
        Edge.of(1, sentence, "an empty tape", () -> {
            Check.due("end(1)", new PointTables().end(1), false);
            Check.due("end(0)", new PointTables().end(0), true);
            Check.due("feed()", new PointTables().feed(0, 0, 0, 0, 0), 20);
            Check.due("place(0)", new PointTables().place(0), 1);
            Check.due("table(0, 3)", new PointTables().table(0, 3), false);
            Check.due("swept(0, 3)", new PointTables().swept(0, 3), false);
        });
        Edge.of(1, sentence, "an empty OUT",
            () -> Check.dueNothingSuch("octet(0)", () -> new PointTables().octet(0)));
        Edge.of(1, sentence, "each object has its own", () -> {
            furnished(1, 2, 3);
            PointTables x = new PointTables();
            Check.due("all that is there", everything(x), everything(new PointTables()));
            Check.due("points(0)", new PointTables().points(0), 0);
        });
    }

    private static void noTables() {
        PointTables x = new PointTables();
        for (int s = 0; s < 6; s++) {
            final int at = s;
            Check.due("points()", x.points(s), 0);
            Check.due("turn()", x.turn(s, 0, 1, 2), 0);
            Check.due("flip()", x.flip(s, 0, 1, 2), false);
            Check.due("mirror()", x.mirror(s, s), false);
            Check.due("without()", x.without(s, s, 0), false);
            Check.due("lawful()", x.lawful(s), NONE);
            Check.due("why()", x.why(s), NONE);
            Check.due("rim()", x.rim(s), NONE);
            Check.dueNothingSuch("onRim()", () -> x.onRim(at, 0));
            Check.due("layer()", x.layer(s, 0), NONE);
            Check.due("code()", x.code(s), NONE);
            Check.due("named()", x.named(s, s), false);
            Check.due("like()", x.like(s, s), NONE);
            Check.due("sweep()", x.sweep(s), NONE);
            Check.due("figures()", x.figures(s, 3, false), NONE);
            Check.due("lines()", x.lines(s, 0), NONE);
            Check.due("inside()", x.inside(s, 0, 1, 2, 3), NONE);
            Check.due("which()", x.which(s), NONE);
        }
    }

    private static void feed() {
        String comes = "Twenty bytes come behind the tape, of each number the highest first: how many it has";
        Edge.of(2, comes, "behind an empty tape",
            () -> Check.due("feed()", new PointTables().feed(1, 2, 3, 4, 5), 20));
        Edge.of(2, comes, "behind one byte", () -> {
            PointTables x = new PointTables();
            tape(x, 0xff);
            Check.due("feed()", x.feed(0xff00ff00, 0, 0, 0, 0), 21);
            x.table(0, 6);
            Check.due("the bits", rowOf(x, 0), "22222222222222221111");
        });
        Edge.of(2, comes, "numbers below 0, the highest byte first", () -> {
            PointTables x = new PointTables();
            x.feed(0x80000001, -1, 0x01020304, 0, 0);
            x.table(0, 10);
            String bits = "2111111111111111" + "1111111111111112" + "2".repeat(32)
                    + "1111111211111121" + "1111112211111211";
            Check.due("the bits", rowOf(x, 0), bits + "1".repeat(120 - bits.length()));
        });
        Edge.of(2, comes, "up to just 140", () -> {
            PointTables x = new PointTables();
            for (int i = 1; i <= 7; i++) {
                Check.due("feed() " + i, x.feed(0, 0, 0, 0, 0), 20 * i);
            }
        });
        String none = "NONE, and none come, if it would have more than 140.";
        Edge.of(2, none, "141, behind 121", () -> dueNotFed(121));
        Edge.of(2, none, "159, behind 139", () -> dueNotFed(139));
        Edge.of(2, none, "160, behind a full tape", () -> dueNotFed(140));
    }

    private static void dueNotFed(int length) {
        int[] bytes = new int[length];
        for (int i = 0; i < length; i++) {
            bytes[i] = 7 * i;
        }
        PointTables x = new PointTables();
        tape(x, bytes);
        Check.due("feed() behind " + length, x.feed(-1, -1, -1, -1, -1), NONE);
        Check.due("end() of one more", x.end(length + 1), false);
        dueStays("feed() behind " + length, bytes, y -> y.feed(-1, -1, -1, -1, -1));
    }

    private static void end() {
        String first = "The tape has its first n bytes alone: true";
        Edge.of(3, first, "all of a full tape", () -> {
            PointTables x = new PointTables();
            tape(x, new int[140]);
            Check.due("end(140)", x.end(140), true);
            Check.due("how many it has", tapeLength(x), 140);
        });
        Edge.of(3, first, "none", () -> {
            PointTables x = new PointTables();
            x.feed(0, 0, 0, 0, 0);
            Check.due("end(0)", x.end(0), true);
            dueTapeEmpty(x);
        });
        Edge.of(3, first, "none of an empty tape", () -> Check.due("end(0)", new PointTables().end(0), true));
        Edge.of(3, first, "the first ones, not the last", () -> {
            PointTables x = new PointTables();
            x.feed(0xf00f0000, 0, 0, 0, -1);
            Check.due("end(2)", x.end(2), true);
            Check.due("feed()", x.feed(0xff000000, 0, 0, 0, 0), 22);
            x.table(0, 6);
            Check.due("the bits", rowOf(x, 0), "22221111111122222222");
        });
        String notSoMany = "false, if it has not so many";
        Edge.of(3, notSoMany, "one more than it has", () -> dueNotEnded(new int[] {9, 8, 7}, 4));
        Edge.of(3, notSoMany, "of an empty tape", () -> dueNotEnded(new int[0], 1));
        Edge.of(3, notSoMany, "141 of a full one", () -> dueNotEnded(new int[140], 141));
        Edge.of(3, notSoMany, "the greatest number", () -> dueNotEnded(new int[] {9}, Integer.MAX_VALUE));
        Edge.of(3, "or n is below 0", "-1", () -> dueNotEnded(new int[] {9, 8}, -1));
        Edge.of(3, "or n is below 0", "-1 of an empty tape", () -> dueNotEnded(new int[0], -1));
        Edge.of(3, "or n is below 0", "the least number", () -> dueNotEnded(new int[] {9}, Integer.MIN_VALUE));
    }

    private static void dueNotEnded(int[] bytes, int n) {
        PointTables x = new PointTables();
        tape(x, bytes);
        Check.due("end(" + n + ")", x.end(n), false);
        dueStays("end(" + n + ")", bytes, y -> y.end(n));
    }

    private static void tapeTaken() {
        String taken = "the tape (empty then, here and below)";
        Edge.of(4, taken, "behind place() that is 0", () -> {
            PointTables x = furnished(bytesOf(TRIANGLE));
            Check.due("place(5)", x.place(5), 0);
            dueTapeEmpty(x);
        });
        Edge.of(4, taken, "behind place() that is 1", () -> {
            dueTakesTapeAlone("place(5) of three bytes", new int[3], x -> x.place(5));
            dueTakesTapeAlone("place(6)", bytesOf(TRIANGLE), x -> x.place(6));
            dueTakesTapeAlone("place(5) of a full tape", new int[140], x -> x.place(5));
        });
        Edge.of(4, taken, "behind place() that is 2", () -> {
            PointTables x = furnished(bytesOf(0, 0, 1, 1, 2, 2));
            Check.due("place(5)", x.place(5), 2);
            dueTapeEmpty(x);
        });
        Edge.of(4, taken, "behind table()", () -> {
            PointTables x = furnished(0, 0, 0);
            Check.due("table(5, 3)", x.table(5, 3), true);
            dueTapeEmpty(x);
            dueTakesTapeAlone("table(5, 5) of one byte", new int[1], y -> y.table(5, 5));
            dueTakesTapeAlone("table(6, 3)", new int[1], y -> y.table(6, 3));
            dueTakesTapeAlone("table(5, 2)", new int[1], y -> y.table(5, 2));
        });
        Edge.of(4, taken, "behind rename()", () -> {
            PointTables x = furnished(4, 3, 2, 1, 0);
            Check.due("rename(5, 0)", x.rename(5, 0), true);
            dueTapeEmpty(x);
            dueTakesTapeAlone("rename(5, 0) of a point twice", new int[5], y -> y.rename(5, 0));
            dueTakesTapeAlone("rename(6, 0)", new int[] {0, 1, 2, 3, 4}, y -> y.rename(6, 0));
            dueTakesTapeAlone("rename(0, 5) of none", new int[] {0, 1, 2, 3, 4}, y -> y.rename(0, 5));
        });
        Edge.of(4, taken, "behind swept()", () -> {
            PointTables x = furnished(0, 1, 0);
            Check.due("swept(5, 3)", x.swept(5, 3), true);
            dueTapeEmpty(x);
            dueTakesTapeAlone("swept(5, 3) of no sweep", new int[3], y -> y.swept(5, 3));
            dueTakesTapeAlone("swept(6, 3)", new int[] {0, 1, 0}, y -> y.swept(6, 3));
            dueTakesTapeAlone("swept(5, 2)", new int[] {0}, y -> y.swept(5, 2));
        });
        Edge.of(4, taken, "not behind the calls that do not take it", TapeEdges::tapeNotTaken);
    }

    private static void tapeNotTaken() {
        PointTables x = furnished(9, 8, 7, 6, 5);
        x.turn(0, 0, 1, 2);
        x.flip(0, 0, 1, 2);
        x.mirror(5, 0);
        x.without(5, 0, 0);
        x.lawful(0);
        x.code(3);
        x.named(5, 3);
        x.like(0, 3);
        x.sweep(3);
        x.figures(3, 3, true);
        x.kind(5, 6, 1);
        x.which(3);
        x.points(0);
        Check.due("how many it has", tapeLength(x), 5);
    }

    private static void place() {
        String bytes = "has four bytes for each POINT: x, y, the highest byte first, with their signs";
        Edge.of(4, bytes, "numbers that need the higher byte", () -> {
            // Were the bytes the other way, or without a sign, these would turn otherwise or be wrong.
            Check.due("turn", with(0, 0, 256, 1, 1, 256).turn(0, 0, 1, 2), 1);
            Check.due("turn", with(0, 0, 255, -1, 257, 2).turn(0, 0, 1, 2), 1);
        });
        Edge.of(4, bytes, "numbers below 0", () -> {
            Check.due("turn", with(-1, -1, 0, -1, -1, 0).turn(0, 0, 1, 2), 1);
            Check.due("turn", with(-1, 0, 1, 0, 0, -1).turn(0, 0, 1, 2), -1);
            Check.due("turn", with(-256, 0, 256, 0, 0, -256).turn(0, 0, 1, 2), -1);
        });
        String noSlot = "1 no such SLOT";
        Edge.of(4, noSlot, "-1, 6 and farther ones", () -> {
            for (int s : WRONG_SLOTS) {
                Check.due("place(" + s + ")", put(new PointTables(), s, TRIANGLE), 1);
                dueTakesTapeAlone("place(" + s + ")", bytesOf(TRIANGLE), x -> x.place(s));
            }
        });
        Edge.of(4, noSlot, "0 and 5 are such", () -> {
            Check.due("place(0)", put(new PointTables(), 0, TRIANGLE), 0);
            Check.due("place(5)", put(new PointTables(), 5, TRIANGLE), 0);
        });
        Edge.of(4, "not 3 to 10 POINTS of four bytes", "each length that a tape can have",
            TapeEdges::placeOfEachLength);
        Edge.of(4, "or a number that is not as told", "each number of ten points", TapeEdges::eachNumberOfTen);
        Edge.of(4, "or a number that is not as told", "on a line too: 1 stands ahead of 2", () -> {
            Check.due("place(0)", put(new PointTables(), 0, 0, 0, 1, 1, 2, 2, 10001, 0), 1);
            PointTables x = new PointTables();
            Check.due("place(6)", put(x, 6, 0, 0, 1, 1, 2, 2), 1);
            Check.due("line()", x.line(), NONE);
        });
        Edge.of(4, "2 three on a line", "the first and the last three", () -> {
            Check.due("place(0)", put(new PointTables(), 0, 0, 0, 1, 1, 2, 2, 9, 0), 2);
            Check.due("place(0)", put(new PointTables(), 0, 9, 0, 0, 0, 1, 1, 2, 2), 2);
            Check.due("place(0)", put(new PointTables(), 0, 0, 0, 9, 0, 1, 1, 2, 2), 2);
        });
        Edge.of(4, "all stays then", "behind 1", () -> {
            dueTakesTapeAlone("place(0) of two points", new int[8], x -> x.place(0));
            dueTakesTapeAlone("place(0) of a wrong number", bytesOf(0, 0, 1, 0, 0, 10001), x -> x.place(0));
        });
        Edge.of(4, "all stays then", "behind 2, but for what line() tells", TapeEdges::staysBehindTwo);
    }

    private static void placeOfEachLength() {
        int[] bytes = bytesOf(convex(35));
        for (int length = 0; length <= 140; length++) {
            PointTables x = new PointTables();
            tape(x, Arrays.copyOf(bytes, length));
            boolean right = length % 4 == 0 && length >= 12 && length <= 40;
            Check.due("place(0) of " + length + " bytes", x.place(0), right ? 0 : 1);
            Check.due("points(0) of " + length + " bytes", x.points(0), right ? length / 4 : 0);
        }
    }

    private static void eachNumberOfTen() {
        for (int at = 0; at < 20; at++) {
            for (int number : new int[] {-10001, 10001}) {
                int[] numbers = convex(10);
                numbers[at] = number;
                Check.due(number + " as number " + at, put(new PointTables(), 0, numbers), 1);
            }
        }
    }

    private static void staysBehindTwo() {
        // The same three points are told by line() as were ahead of it.
        int[] bytes = bytesOf(0, 0, 2, 2, 7, 5, 9, 9);
        for (int s = 0; s < 6; s++) {
            final int at = s;
            PointTables x = furnished(bytes);
            Check.due("place(" + s + ")", x.place(s), 2);
            dueTakesTapeAlone("place(" + s + ")", bytes, y -> y.place(at));
        }
    }

    private static void line() {
        String three = "The three POINTS on a line, i 100, j 10, k together, i < j < k, the first such";
        Edge.of(5, three, "0 1 2", () -> dueLine(12, 0, 0, 1, 1, 2, 2));
        Edge.of(5, three, "7 8 9",
            () -> dueLine(789, 0, 0, 1, 1, 2, 4, 3, 9, 4, 16, 5, 25, 6, 36, 7, 49, 8, 64, 9, 79));
        Edge.of(5, three, "all are on one line", () -> dueLine(12, 0, 0, 3, 0, 1, 0, 2, 0, 9, 0));
        Edge.of(5, three, "0 3 4 ahead of 1 2 3", () -> dueLine(34, 0, 0, 5, 9, 5, 8, 5, 5, 6, 6));
        Edge.of(5, three, "0 1 4 ahead of 0 2 3", () -> dueLine(14, 0, 0, 1, 0, 1, 5, 2, 10, 7, 0));
        Edge.of(5, three, "0 1 3 ahead of 0 1 4", () -> dueLine(13, 0, 0, 1, 0, 1, 5, 7, 0, 6, 0));
        String latest = "of the latest place() that was 2";
        Edge.of(5, latest, "another one that is 2", () -> {
            PointTables x = furnished();
            put(x, 0, 5, 6, 0, 0, 1, 1, 0, 7, 2, 2, 3, 3);
            Check.due("line()", x.line(), 124);
        });
        Edge.of(5, latest, "one that is 0 behind it", () -> {
            PointTables x = furnished(bytesOf(TRIANGLE));
            Check.due("place(4)", x.place(4), 0);
            Check.due("line()", x.line(), 13);
        });
        Edge.of(5, latest, "one that is 1 behind it", () -> {
            PointTables x = furnished();
            Check.due("place(6)", put(x, 6, 0, 0, 1, 1, 2, 2), 1);
            Check.due("line()", x.line(), 13);
            Check.due("place(0)", put(x, 0, 0, 0, 1, 1, 2, 2, 0, 10001), 1);
            Check.due("line()", x.line(), 13);
        });
        Edge.of(5, "NONE ahead of any", "of a new object", () -> Check.due("line()", new PointTables().line(), NONE));
        Edge.of(5, "NONE ahead of any", "behind 0 and 1", () -> {
            PointTables x = with(TRIANGLE);
            x.place(0);
            Check.due("line()", x.line(), NONE);
        });
    }

    private static void dueLine(int want, int... numbers) {
        PointTables x = new PointTables();
        Check.due("place(0)", put(x, 0, numbers), 2);
        Check.due("line()", x.line(), want);
    }

    private static void table() {
        String bits = "the tape's bits (the highest of each byte first, 1 RIGHT) are the ROW of its own NAMES 0 "
                + ".. n - 1";
        Edge.of(6, bits, "the first and the last bit of each byte", () -> {
            PointTables x = new PointTables();
            tape(x, 0x80, 0x01, 0x81);
            Check.due("table(0, 6)", x.table(0, 6), true);
            Check.due("the row", rowOf(x, 0), "21111111" + "11111112" + "2111");
        });
        Edge.of(6, "(others are nothing)", "the other bits of the last byte", () -> {
            PointTables x = new PointTables();
            tape(x, 0x5f);
            Check.due("table(0, 4)", x.table(0, 4), true);
            Check.due("the row", rowOf(x, 0), "1212");
        });
        Edge.of(6, "(others are nothing)", "further bytes, up to a full tape", () -> {
            for (int n = 3; n <= 10; n++) {
                PointTables x = new PointTables();
                int[] bytes = new int[140];
                Arrays.fill(bytes, (turnsOf(n) + 7) / 8, 140, 255);
                tape(x, bytes);
                Check.due("table(0, " + n + ")", x.table(0, n), true);
                Check.due("the row", rowOf(x, 0), "1".repeat(turnsOf(n)));
            }
        });
        Edge.of(6, "false: no such SLOT", "-1, 6 and farther ones", () -> {
            for (int s : WRONG_SLOTS) {
                dueNotTable(s, 3, new int[15]);
            }
        });
        Edge.of(6, "false: no such SLOT, n,", "2, 11 and farther ones", () -> {
            for (int n : new int[] {2, 11, 1, 0, -1, -3, 100, Integer.MIN_VALUE, Integer.MAX_VALUE}) {
                dueNotTable(0, n, new int[140]);
            }
        });
        String few = "or there are not so many bits";
        Edge.of(6, few, "one byte too few, for each n", () -> {
            for (int n = 3; n <= 10; n++) {
                dueNotTable(0, n, new int[(turnsOf(n) + 7) / 8 - 1]);
            }
        });
        Edge.of(6, few, "just enough bytes, for each n", () -> {
            for (int n = 3; n <= 10; n++) {
                PointTables x = new PointTables();
                tape(x, new int[(turnsOf(n) + 7) / 8]);
                Check.due("table(0, " + n + ")", x.table(0, n), true);
                Check.due("points(0)", x.points(0), n);
            }
        });
    }

    private static void dueNotTable(int s, int n, int[] bytes) {
        PointTables x = new PointTables();
        tape(x, bytes);
        Check.due("table(" + s + ", " + n + ") of " + bytes.length + " bytes", x.table(s, n), false);
        dueTakesTapeAlone("table(" + s + ", " + n + ")", bytes, y -> y.table(s, n));
    }
}

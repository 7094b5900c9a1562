/** Each promise by itself: ordinary inputs, the edges that the document names, wrong inputs. */
public final class PromiseTest extends Bench {
    private PromiseTest() {
    }

    public static void main(String[] args) {
        newObject();
        feed();
        end();
        place();
        line();
        table();
        turn();
        flip();
        mirror();
        rename();
        without();
        lawful();
        why();
        rim();
        onRim();
        layer();
        code();
        named();
        like();
        swept();
        sweep();
        octet();
        figures();
        lines();
        inside();
        kinds();
        kind();
        which();
        points();
        Check.finish();
    }

    private static void newObject() {
        Check.part("promise 1");
        PointTables x = new PointTables();
        for (int s = 0; s < 6; s++) {
            Check.due("points(" + s + ")", x.points(s), 0);
            Check.due("lawful(" + s + ")", x.lawful(s), NONE);
        }
        Check.dueNothingSuch("octet(0)", () -> x.octet(0));
        Check.due("line()", x.line(), NONE);
        Check.due("end(1)", x.end(1), false);
        Check.due("end(0)", x.end(0), true);
        Check.due("NONE", PointTables.NONE, NONE);
        Check.due("feed()", x.feed(1, 2, 3, 4, 5), 20);
    }

    private static void feed() {
        Check.part("promise 2");
        PointTables x = new PointTables();
        for (int i = 1; i <= 7; i++) {
            Check.due("feed() " + i, x.feed(-1, -1, -1, -1, -1), 20 * i);
        }
        Check.due("feed() of a full tape", x.feed(0, 0, 0, 0, 0), NONE);
        Check.due("end(141)", x.end(141), false);
        Check.due("end(121)", x.end(121), true);
        Check.due("feed() behind 121", x.feed(0, 0, 0, 0, 0), NONE);
        Check.due("end(122), none having come", x.end(122), false);
        Check.due("end(120)", x.end(120), true);
        Check.due("feed() behind 120", x.feed(0, 0, 0, 0, 0), 140);
        x.end(0);
        Check.due("kind(0, 6, 15)", x.kind(0, 6, 15), true);
        x.feed(0x03020501, 0x00040000, 0, 0, 0);
        x.end(6);
        Check.due("rename(1, 0), the highest byte first", x.rename(1, 0), true);
        Check.due("turn of 0 1 2", x.turn(1, 0, 1, 2), x.turn(0, 3, 2, 5));
        Check.due("turn of 3 4 5", x.turn(1, 3, 4, 5), x.turn(0, 1, 0, 4));
        x.feed(0, 0, 0, 0, 0x80);
        x.end(19);
        x.feed(0xff000000, 0, 0, 0, 0);
        Check.due("feed() comes behind what is there", x.end(39) && !x.end(40), true);
    }

    private static void end() {
        Check.part("promise 3");
        PointTables x = new PointTables();
        x.feed(0, 0, 0, 0, 0);
        Check.due("end(21)", x.end(21), false);
        Check.due("end(-1)", x.end(-1), false);
        Check.due("end(least)", x.end(Integer.MIN_VALUE), false);
        Check.due("end(20)", x.end(20), true);
        Check.due("end(7)", x.end(7), true);
        Check.due("end(8)", x.end(8), false);
        Check.due("end(7) again", x.end(7), true);
        Check.due("feed() behind 7", x.feed(0, 0, 0, 0, 0), 27);
        Check.due("end(0)", x.end(0), true);
        Check.due("end(1)", x.end(1), false);
    }

    private static void place() {
        Check.part("promise 4");
        PointTables x = new PointTables();
        Check.due("place(0) at the edges", put(x, 0, -10000, -10000, 10000, -10000, 10000, 10000), 0);
        dueTapeEmpty(x);
        Check.due("points(0)", x.points(0), 3);
        Check.due("turn LEFT", x.turn(0, 0, 1, 2), 1);
        Check.due("place(0) clockwise", put(x, 0, 0, 0, 0, 1, 1, 0), 0);
        Check.due("turn RIGHT", x.turn(0, 0, 1, 2), -1);
        Check.due("a number above", put(x, 0, 0, 0, 10001, 0, 0, 1), 1);
        Check.due("a number below", put(x, 0, 0, 0, 1, 0, 0, -10001), 1);
        Check.due("the greatest of two bytes", put(x, 0, 0, 0, 32767, 0, 0, 1), 1);
        Check.due("the least of two bytes", put(x, 0, 0, -32768, 1, 0, 0, 1), 1);
        dueTapeEmpty(x);
        Check.due("two points", put(x, 0, 0, 0, 1, 1), 1);
        Check.due("no points", x.place(0), 1);
        tape(x, 0, 0, 0, 0, 0, 1, 0, 0, 0, 0, 0, 1, 0);
        Check.due("thirteen bytes", x.place(0), 1);
        for (int s : WRONG_SLOTS) {
            Check.due("place(" + s + ")", put(x, s, 0, 0, 1, 0, 0, 1), 1);
            dueTapeEmpty(x);
        }
        Check.due("eleven points", put(x, 5, convex(11)), 1);
        Check.due("points(5) still", x.points(5), 0);
        Check.due("ten points", put(x, 5, convex(10)), 0);
        Check.due("points(5)", x.points(5), 10);
        Check.due("on a line", put(x, 0, 0, 0, 1, 1, 2, 2, 0, 5), 2);
        dueTapeEmpty(x);
        Check.due("the same place twice", put(x, 0, 0, 0, 7, 7, 0, 0), 2);
        Check.due("a wrong number ahead of a line", put(x, 0, 0, 0, 0, 0, 0, 0, 0, 10001), 1);
        Check.due("no such slot ahead of a line", put(x, 6, 0, 0, 1, 1, 2, 2), 1);
        Check.due("points(0) stayed", x.points(0), 3);
        Check.due("turn stayed", x.turn(0, 0, 1, 2), -1);
        Check.due("the widest areas", put(x, 1, -10000, 10000, 10000, -10000, 10000, 10000, -9999, -10000), 0);
        Check.due("turn of the widest", x.turn(1, 0, 1, 2), 1);
        Check.due("turn of the widest", x.turn(1, 2, 1, 3), -1);
    }

    private static void line() {
        Check.part("promise 5");
        PointTables x = new PointTables();
        Check.due("line() ahead of any", x.line(), NONE);
        put(x, 0, 0, 0, 1, 0);
        Check.due("line() behind 1", x.line(), NONE);
        put(x, 0, 0, 0, 5, 1, 1, 0, 3, 7, 2, 0, 10, 2);
        Check.due("line(), the first such", x.line(), 15);
        put(x, 0, 9, 77, 0, 0, 3, 100, 1, 1, 2, 2, 3, 3);
        Check.due("line(), the latest", x.line(), 134);
        put(x, 0, 0, 0, 1, 0, 0, 1);
        Check.due("line() behind 0", x.line(), 134);
        put(x, 9, 0, 0, 1, 0, 2, 0);
        Check.due("line() behind 1", x.line(), 134);
        put(x, 1, 0, 0, 1, 1, 2, 4, 3, 9, 4, 16, 5, 25, 6, 36, 7, 49, 8, 64, 9, 79);
        Check.due("line() of the last three", x.line(), 789);
    }

    private static void table() {
        Check.part("promise 6");
        PointTables x = new PointTables();
        tape(x, 0x50, 0xff);
        Check.due("table(0, 4)", x.table(0, 4), true);
        dueTapeEmpty(x);
        Check.due("points(0)", x.points(0), 4);
        Check.due("turn 0 1 2", x.turn(0, 0, 1, 2), 1);
        Check.due("turn 0 1 3", x.turn(0, 0, 1, 3), -1);
        Check.due("turn 0 2 3", x.turn(0, 0, 2, 3), 1);
        Check.due("turn 1 2 3", x.turn(0, 1, 2, 3), -1);
        tape(x, 0x00, 0x40);
        Check.due("table(1, 5) of just ten bits", x.table(1, 5), true);
        Check.due("turn 1 3 4 in the second byte", x.turn(1, 2, 3, 4), -1);
        Check.due("turn 1 3 4", x.turn(1, 1, 3, 4), 1);
        tape(x, 0xff);
        Check.due("table(1, 5) of eight bits", x.table(1, 5), false);
        dueTapeEmpty(x);
        Check.due("turn stays", x.turn(1, 0, 1, 2), 1);
        tape(x, new int[14]);
        Check.due("table(1, 10) of 112 bits", x.table(1, 10), false);
        tape(x, 0, 0, 0, 0, 0, 0, 0, 0, 0, 0, 0, 0, 0, 0, 1);
        Check.due("table(1, 10) of 120 bits", x.table(1, 10), true);
        Check.due("its last turn", x.turn(1, 7, 8, 9), -1);
        Check.due("its last but one", x.turn(1, 6, 8, 9), 1);
        for (int n : new int[] {2, 11, 0, -3, Integer.MIN_VALUE, Integer.MAX_VALUE}) {
            tape(x, new int[140]);
            Check.due("table(0, " + n + ")", x.table(0, n), false);
            dueTapeEmpty(x);
        }
        for (int s : WRONG_SLOTS) {
            tape(x, 0);
            Check.due("table(" + s + ", 3)", x.table(s, 3), false);
            dueTapeEmpty(x);
        }
        Check.due("table(2, 3) of an empty tape", x.table(2, 3), false);
        Check.due("points(2)", x.points(2), 0);
        Check.due("points(0) stays", x.points(0), 4);
    }

    private static void turn() {
        Check.part("promise 7");
        PointTables x = with(SQUARE);
        Check.due("turn 0 1 2", x.turn(0, 0, 1, 2), 1);
        Check.due("turn 1 2 0", x.turn(0, 1, 2, 0), 1);
        Check.due("turn 2 0 1", x.turn(0, 2, 0, 1), 1);
        Check.due("turn 0 2 1", x.turn(0, 0, 2, 1), -1);
        Check.due("turn 2 1 0", x.turn(0, 2, 1, 0), -1);
        Check.due("turn 1 0 2", x.turn(0, 1, 0, 2), -1);
        Check.due("turn 0 2 4", x.turn(0, 0, 2, 4), 1);
        Check.due("turn 1 3 4", x.turn(0, 1, 3, 4), 1);
        Check.due("turn 0 0 1", x.turn(0, 0, 0, 1), 0);
        Check.due("turn 0 1 1", x.turn(0, 0, 1, 1), 0);
        Check.due("turn 1 0 1", x.turn(0, 1, 0, 1), 0);
        Check.due("turn 0 1 5", x.turn(0, 0, 1, 5), 0);
        Check.due("turn 0 5 1", x.turn(0, 0, 5, 1), 0);
        Check.due("turn 5 0 1", x.turn(0, 5, 0, 1), 0);
        Check.due("turn -1 0 1", x.turn(0, -1, 0, 1), 0);
        Check.due("turn 0 -1 1", x.turn(0, 0, -1, 1), 0);
        Check.due("turn 0 1 -1", x.turn(0, 0, 1, -1), 0);
        Check.due("turn 0 1 34", x.turn(0, 0, 1, 34), 0);
        Check.due("turn without a table", x.turn(1, 0, 1, 2), 0);
        for (int s : WRONG_SLOTS) {
            Check.due("turn(" + s + ", ..)", x.turn(s, 0, 1, 2), 0);
        }
    }

    private static void flip() {
        Check.part("promise 8");
        PointTables x = with(TRIANGLE_FULL);
        Check.due("lawful(0) ahead", x.lawful(0), 1);
        Check.due("code(0) ahead", x.code(0), 4);
        Check.due("flip 2 0 1", x.flip(0, 2, 0, 1), true);
        Check.due("turn 0 1 2", x.turn(0, 0, 1, 2), -1);
        Check.due("turn 1 0 2", x.turn(0, 1, 0, 2), 1);
        Check.due("turn 0 1 3 stays", x.turn(0, 0, 1, 3), 1);
        Check.due("lawful(0)", x.lawful(0), 0);
        Check.due("flip 1 0 2", x.flip(0, 1, 0, 2), true);
        Check.due("lawful(0) again", x.lawful(0), 1);
        Check.due("which(0)", x.which(0), 1);
        Check.due("flip 1 2 3", x.flip(0, 1, 2, 3), true);
        Check.due("which(0), a point being outside now", x.which(0), 0);
        Check.due("flip 0 0 1", x.flip(0, 0, 0, 1), false);
        Check.due("flip 0 1 4", x.flip(0, 0, 1, 4), false);
        Check.due("flip -1 1 2", x.flip(0, -1, 1, 2), false);
        Check.due("flip without a table", x.flip(1, 0, 1, 2), false);
        for (int s : WRONG_SLOTS) {
            Check.due("flip(" + s + ", ..)", x.flip(s, 0, 1, 2), false);
        }
        Check.due("which(0) stays", x.which(0), 0);
    }

    private static void mirror() {
        Check.part("promise 9");
        PointTables x = with(SQUARE);
        Check.due("mirror(1, 0)", x.mirror(1, 0), true);
        Check.due("points(1)", x.points(1), 5);
        for (int i = 0; i < 5; i++) {
            for (int j = 0; j < 5; j++) {
                for (int k = 0; k < 5; k++) {
                    Check.due("turn " + i + " " + j + " " + k, x.turn(1, i, j, k), -x.turn(0, i, j, k));
                }
            }
        }
        Check.due("mirror(0, 0)", x.mirror(0, 0), true);
        Check.due("turn of itself mirrored", x.turn(0, 0, 1, 2), -1);
        Check.due("mirror(0, 2) of none", x.mirror(0, 2), false);
        Check.due("points(0) stays", x.points(0), 5);
        Check.due("mirror(2, 2) of none", x.mirror(2, 2), false);
        for (int s : WRONG_SLOTS) {
            Check.due("mirror(" + s + ", 0)", x.mirror(s, 0), false);
            Check.due("mirror(0, " + s + ")", x.mirror(0, s), false);
        }
        x.feed(0, 0, 0, 0, 0);
        x.mirror(1, 0);
        Check.due("the tape stays", x.feed(0, 0, 0, 0, 0), 40);
        PointTables y = withBits(4, 0xa0000000);
        Check.due("mirror() of one that is not lawful", y.mirror(3, 0), true);
        Check.due("turn of it", y.turn(3, 0, 1, 2), 1);
    }

    private static void rename() {
        Check.part("promise 10");
        PointTables x = with(SQUARE);
        tape(x, 4, 0, 3, 1, 2);
        Check.due("rename(1, 0)", x.rename(1, 0), true);
        dueTapeEmpty(x);
        int[] origin = {4, 0, 3, 1, 2};
        for (int i = 0; i < 5; i++) {
            for (int j = 0; j < 5; j++) {
                for (int k = 0; k < 5; k++) {
                    int want = x.turn(0, origin[i], origin[j], origin[k]);
                    Check.due("turn " + i + " " + j + " " + k, x.turn(1, i, j, k), want);
                }
            }
        }
        tape(x, 1, 2, 3, 4, 0);
        Check.due("rename(0, 0)", x.rename(0, 0), true);
        Check.due("the inner one of itself", x.layer(0, 3), 1);
        dueNotRenamed(x, 0, 0, 0, 1, 2, 3, 3);
        dueNotRenamed(x, 0, 0, 1, 1, 2, 3, 4);
        dueNotRenamed(x, 0, 0, 0, 1, 2, 3);
        dueNotRenamed(x, 0, 0, 0, 1, 2, 3, 5);
        dueNotRenamed(x, 0, 0, 0, 1, 2, 3, 255);
        dueNotRenamed(x, 0, 0, 0, 1, 2, 3, 4, 0);
        dueNotRenamed(x, 0, 0);
        dueNotRenamed(x, 0, 2, 0, 1, 2, 3, 4);
        for (int s : WRONG_SLOTS) {
            dueNotRenamed(x, s, 0, 0, 1, 2, 3, 4);
            dueNotRenamed(x, 0, s, 0, 1, 2, 3, 4);
        }
        Check.due("the inner one stays", x.layer(0, 3), 1);
    }

    private static void dueNotRenamed(PointTables x, int s, int t, int... bytes) {
        tape(x, bytes);
        Check.due("rename(" + s + ", " + t + ") of " + java.util.Arrays.toString(bytes), x.rename(s, t), false);
        dueTapeEmpty(x);
    }

    private static void without() {
        Check.part("promise 11");
        PointTables x = with(SQUARE);
        Check.due("without(1, 0, 4)", x.without(1, 0, 4), true);
        Check.due("rim(1)", x.rim(1), 4);
        Check.due("without(1, 0, 2)", x.without(1, 0, 2), true);
        Check.due("points(1)", x.points(1), 4);
        Check.due("turn 0 1 3", x.turn(1, 0, 1, 3), x.turn(0, 0, 1, 4));
        Check.due("turn 1 2 3", x.turn(1, 1, 2, 3), x.turn(0, 1, 3, 4));
        Check.due("rim(1)", x.rim(1), 3);
        for (int p = 0; p < 5; p++) {
            Check.due("without(1, 0, " + p + ")", x.without(1, 0, p), true);
            for (int i = 0; i < 4; i++) {
                int was = i < p ? i : i + 1;
                int next = (i + 1) % 4 < p ? (i + 1) % 4 : (i + 1) % 4 + 1;
                int last = (i + 2) % 4 < p ? (i + 2) % 4 : (i + 2) % 4 + 1;
                int turn = x.turn(1, i, (i + 1) % 4, (i + 2) % 4);
                Check.due("turn without " + p + " from " + i, turn, x.turn(0, was, next, last));
            }
        }
        Check.due("without(1, 0, 5)", x.without(1, 0, 5), false);
        Check.due("without(1, 0, -1)", x.without(1, 0, -1), false);
        Check.due("without(1, 1, 0)", x.without(1, 1, 0), true);
        Check.due("points(1)", x.points(1), 3);
        Check.due("without(1, 1, 0) of three", x.without(1, 1, 0), false);
        Check.due("without(2, 1, 0) of three", x.without(2, 1, 0), false);
        Check.due("points(1) stays", x.points(1), 3);
        Check.due("without(1, 2, 0) of none", x.without(1, 2, 0), false);
        for (int s : WRONG_SLOTS) {
            Check.due("without(" + s + ", 0, 0)", x.without(s, 0, 0), false);
            Check.due("without(0, " + s + ", 0)", x.without(0, s, 0), false);
        }
        Check.due("points(0) stays", x.points(0), 5);
    }

    private static void lawful() {
        Check.part("promise 12");
        int lawful = 0;
        for (int bits = 0; bits < 16; bits++) {
            lawful += withBits(4, bits << 28).lawful(0);
        }
        Check.due("lawful tables of four", lawful, 14);
        Check.due("lawful(0) of 1010", withBits(4, 0xa0000000).lawful(0), 0);
        Check.due("lawful(0) of 0101", withBits(4, 0x50000000).lawful(0), 0);
        lawful = 0;
        for (int bits = 0; bits < 1024; bits++) {
            lawful += withBits(5, bits << 22).lawful(0);
        }
        Check.due("lawful tables of five", lawful, 264);
        PointTables x = with(NESTED);
        Check.due("lawful(0) of placed ones", x.lawful(0), 1);
        Check.due("lawful(1)", x.lawful(1), NONE);
        for (int s : WRONG_SLOTS) {
            Check.due("lawful(" + s + ")", x.lawful(s), NONE);
        }
    }

    private static void why() {
        Check.part("promise 13");
        Check.due("why(0) of a lawful one", with(NESTED).why(0), 0);
        Check.due("why(0) of four", withBits(4, 0xa0000000).why(0), 15);
        Check.due("why(0) of five", withBits(5, 2 << 22).why(0), 31);
        Check.due("why(0), a four behind the first five", withBits(6, 105353 << 12).why(0), 39);
        Check.due("why(0), a four behind the first five", withBits(6, 427231 << 12).why(0), 46);
        Check.due("why(0), not the first five", withBits(6, 44353 << 12).why(0), 61);
        Check.due("why(0), not the first five", withBits(6, 164361 << 12).why(0), 55);
        PointTables x = with(NESTED);
        Check.due("flip 0 1 2", x.flip(0, 0, 1, 2), true);
        Check.due("why(0) by the least points", x.why(0), 15);
        Check.due("why(1)", x.why(1), NONE);
        for (int s : WRONG_SLOTS) {
            Check.due("why(" + s + ")", x.why(s), NONE);
        }
    }

    private static void rim() {
        Check.part("promise 14");
        Check.due("rim(0) of a square", with(SQUARE).rim(0), 4);
        Check.due("rim(0) of a triangle", with(TRIANGLE_FULL).rim(0), 3);
        Check.due("rim(0) of a hexagon", with(HEXAGON).rim(0), 6);
        PointTables x = with(0, 0, 0, 1, 1, 0);
        Check.due("rim(0) of three", x.rim(0), 3);
        Check.due("rim(1)", x.rim(1), NONE);
        Check.due("rim(0), not lawful", withBits(4, 0xa0000000).rim(0), NONE);
        for (int s : WRONG_SLOTS) {
            Check.due("rim(" + s + ")", x.rim(s), NONE);
        }
    }

    private static void onRim() {
        Check.part("promise 15");
        PointTables x = with(INNER_FIRST);
        int[] want = {1, 4, 3, 2};
        for (int k = 0; k < 4; k++) {
            Check.due("onRim(0, " + k + ")", x.onRim(0, k), want[k]);
        }
        Check.dueNothingSuch("onRim(0, 4)", () -> x.onRim(0, 4));
        Check.dueNothingSuch("onRim(0, -1)", () -> x.onRim(0, -1));
        Check.dueNothingSuch("onRim(0, greatest)", () -> x.onRim(0, Integer.MAX_VALUE));
        Check.dueNothingSuch("onRim(1, 0)", () -> x.onRim(1, 0));
        for (int s : WRONG_SLOTS) {
            Check.dueNothingSuch("onRim(" + s + ", 0)", () -> x.onRim(s, 0));
        }
        x.mirror(1, 0);
        int[] other = {1, 2, 3, 4};
        for (int k = 0; k < 4; k++) {
            Check.due("onRim(1, " + k + ")", x.onRim(1, k), other[k]);
        }
        PointTables y = withBits(4, 0xa0000000);
        Check.dueNothingSuch("onRim(0, 0), not lawful", () -> y.onRim(0, 0));
    }

    private static void layer() {
        Check.part("promise 16");
        PointTables x = with(NESTED);
        int[] want = {0, 0, 0, 1, 1, 1, 2, 2};
        for (int p = 0; p < 8; p++) {
            Check.due("layer(0, " + p + ")", x.layer(0, p), want[p]);
        }
        Check.due("layer(0, 8)", x.layer(0, 8), NONE);
        Check.due("layer(0, -1)", x.layer(0, -1), NONE);
        Check.due("layer(0, 32)", x.layer(0, 32), NONE);
        Check.due("layer(1, 0)", x.layer(1, 0), NONE);
        Check.due("without(1, 0, 7)", x.without(1, 0, 7), true);
        Check.due("layer(1, 6), one being left", x.layer(1, 6), 2);
        Check.due("layer(0, 0), not lawful", withBits(4, 0xa0000000).layer(0, 0), NONE);
        for (int s : WRONG_SLOTS) {
            Check.due("layer(" + s + ", 0)", x.layer(s, 0), NONE);
        }
        PointTables y = with(DEEP);
        Check.due("layer of the innermost of ten", y.layer(0, 9), 3);
        Check.due("layer of the third three", y.layer(0, 8), 2);
    }

    private static void code() {
        Check.part("promise 17");
        PointTables x = with(SQUARE);
        Check.due("code(0)", x.code(0), 10);
        dueOut(x, 1, 1, 1, 1, 1, 1, 1, 1, 1, 2);
        Check.due("code(1)", x.code(1), NONE);
        dueOut(x, 1, 1, 1, 1, 1, 1, 1, 1, 1, 2);
        put(x, 1, TRIANGLE_FULL);
        Check.due("code(1)", x.code(1), 4);
        dueOut(x, 1, 1, 1, 2);
        x.mirror(2, 1);
        Check.due("code(2) of the mirror", x.code(2), 4);
        dueOut(x, 1, 1, 1, 2);
        x.flip(1, 0, 1, 2);
        Check.due("code(1), not lawful", x.code(1), NONE);
        dueOut(x, 1, 1, 1, 2);
        for (int s : WRONG_SLOTS) {
            Check.due("code(" + s + ")", x.code(s), NONE);
        }
        dueOut(x, 1, 1, 1, 2);
        // A kind that is not like its mirror has the same code as that.
        x.kind(3, 6, 3);
        x.mirror(4, 3);
        Check.due("code(4)", x.code(4), 20);
        dueOut(x, 1, 1, 1, 1, 1, 1, 1, 1, 1, 1, 1, 1, 1, 1, 1, 1, 1, 2, 2, 2);
        put(x, 5, convex(10));
        Check.due("code(5) of ten", x.code(5), 120);
        Check.due("its last", x.octet(119), 1);
    }

    private static void named() {
        Check.part("promise 18");
        PointTables x = with(INNER_FIRST);
        Check.due("code(0)", x.code(0), 10);
        Check.due("named(1, 0)", x.named(1, 0), true);
        Check.due("points(1)", x.points(1), 5);
        Check.due("turn 1 3 4", x.turn(1, 1, 3, 4), 1);
        Check.due("turn 2 3 4", x.turn(1, 2, 3, 4), -1);
        dueOut(x, 1, 1, 1, 1, 1, 1, 1, 1, 1, 2);
        Check.due("named(0, 0)", x.named(0, 0), true);
        Check.due("turn 2 3 4 of itself", x.turn(0, 2, 3, 4), -1);
        Check.due("turn 0 1 2 of itself", x.turn(0, 0, 1, 2), 1);
        Check.due("named(0, 2) of none", x.named(0, 2), false);
        put(x, 2, TRIANGLE_FULL);
        Check.due("named(3, 2)", x.named(3, 2), true);
        dueOut(x, 1, 1, 1, 1, 1, 1, 1, 1, 1, 2);
        x.flip(2, 0, 1, 2);
        Check.due("named(4, 2), not lawful", x.named(4, 2), false);
        Check.due("points(4)", x.points(4), 0);
        for (int s : WRONG_SLOTS) {
            Check.due("named(" + s + ", 0)", x.named(s, 0), false);
            Check.due("named(0, " + s + ")", x.named(0, s), false);
        }
        Check.due("points(0) stays", x.points(0), 5);
    }

    private static void like() {
        Check.part("promise 19");
        PointTables x = with(SQUARE);
        put(x, 1, INNER_FIRST);
        Check.due("like(0, 1)", x.like(0, 1), 3);
        Check.due("like(0, 0)", x.like(0, 0), 3);
        x.kind(2, 6, 3);
        x.mirror(3, 2);
        Check.due("like(2, 2), not like its mirror", x.like(2, 2), 1);
        Check.due("like(2, 3)", x.like(2, 3), 2);
        Check.due("like(3, 2)", x.like(3, 2), 2);
        tape(x, 5, 3, 1, 0, 2, 4);
        x.rename(4, 3);
        Check.due("like(4, 3)", x.like(4, 3), 1);
        Check.due("like(4, 2)", x.like(4, 2), 2);
        x.kind(4, 6, 4);
        Check.due("like(4, 2), another kind", x.like(4, 2), 0);
        Check.due("like(0, 2), another number", x.like(0, 2), 0);
        x.without(4, 0, 4);
        Check.due("like(4, 0), fewer", x.like(4, 0), 0);
        Check.due("like(0, 5) of none", x.like(0, 5), NONE);
        Check.due("like(5, 0) of none", x.like(5, 0), NONE);
        tape(x, 0xa0);
        x.table(5, 4);
        Check.due("like(0, 5), not lawful", x.like(0, 5), NONE);
        Check.due("like(5, 5), not lawful", x.like(5, 5), NONE);
        for (int s : WRONG_SLOTS) {
            Check.due("like(" + s + ", 0)", x.like(s, 0), NONE);
            Check.due("like(0, " + s + ")", x.like(0, s), NONE);
        }
    }

    private static void swept() {
        Check.part("promise 20");
        PointTables x = new PointTables();
        dueSwept(x, 0, 3, true, 0, 1, 0);
        Check.due("turn LEFT", x.turn(0, 0, 1, 2), 1);
        dueSwept(x, 0, 3, true, 1, 0, 1);
        Check.due("turn RIGHT", x.turn(0, 0, 1, 2), -1);
        dueSwept(x, 1, 4, true, 0, 2, 1, 0, 2, 1);
        Check.due("turn 0 1 2", x.turn(1, 0, 1, 2), 1);
        Check.due("turn 0 1 3", x.turn(1, 0, 1, 3), 1);
        Check.due("turn 0 2 3", x.turn(1, 0, 2, 3), -1);
        Check.due("turn 1 2 3", x.turn(1, 1, 2, 3), -1);
        dueSwept(x, 0, 3, false, 0, 0, 1);
        dueSwept(x, 0, 3, false, 0, 1);
        dueSwept(x, 0, 3, false, 0, 1, 0, 0);
        dueSwept(x, 0, 3, false, 0, 1, 0, 1);
        dueSwept(x, 0, 3, false, 0, 2, 0);
        dueSwept(x, 0, 3, false, 255, 1, 0);
        dueSwept(x, 0, 3, false, 0, 1, 1);
        dueSwept(x, 0, 4, false, 0, 1, 0);
        dueSwept(x, 0, 2, false, 0);
        dueSwept(x, 0, 1, false);
        dueSwept(x, 0, 0, false);
        dueSwept(x, 0, -2, false, 0, 1, 0);
        dueSwept(x, 0, Integer.MIN_VALUE, false);
        dueSwept(x, 0, 11, false, sweepOf(11));
        for (int s : WRONG_SLOTS) {
            dueSwept(x, s, 3, false, 0, 1, 0);
        }
        Check.due("points(0) stays", x.points(0), 3);
        Check.due("turn stays", x.turn(0, 0, 1, 2), -1);
        dueSwept(x, 0, 10, true, sweepOf(10));
        Check.due("points(0)", x.points(0), 10);
        Check.due("rim(0)", x.rim(0), 10);
    }

    private static void dueSwept(PointTables x, int s, int n, boolean want, int... bytes) {
        tape(x, bytes);
        Check.due("swept(" + s + ", " + n + ") of " + java.util.Arrays.toString(bytes), x.swept(s, n), want);
        dueTapeEmpty(x);
    }

    private static void sweep() {
        Check.part("promise 21");
        PointTables x = new PointTables();
        tape(x, 0x00);
        x.table(0, 4);
        Check.due("sweep(0) of all LEFT", x.sweep(0), 6);
        dueOut(x, 0, 1, 0, 2, 1, 0);
        x.mirror(1, 0);
        Check.due("sweep(1) of all RIGHT", x.sweep(1), 6);
        dueOut(x, 2, 1, 0, 2, 1, 2);
        tape(x, 2, 0, 1, 2, 0, 1);
        x.swept(2, 4);
        Check.due("sweep(2), the least places", x.sweep(2), 6);
        dueOut(x, 0, 2, 1, 0, 2, 1);
        tape(x, 0xa0);
        x.table(3, 4);
        Check.due("sweep(3), there is none", x.sweep(3), NONE);
        tape(x, 0x20);
        x.table(3, 4);
        Check.due("lawful(3)", x.lawful(3), 1);
        Check.due("sweep(3) of a lawful one without", x.sweep(3), NONE);
        Check.due("sweep(4) of none", x.sweep(4), NONE);
        for (int s : WRONG_SLOTS) {
            Check.due("sweep(" + s + ")", x.sweep(s), NONE);
        }
        dueOut(x, 0, 2, 1, 0, 2, 1);
        tape(x, sweepOf(10));
        x.swept(5, 10);
        Check.due("sweep(5) of ten", x.sweep(5), 45);
        Check.due("octet(0)", x.octet(0), 0);
        Check.due("octet(1)", x.octet(1), 1);
        Check.due("octet(2)", x.octet(2), 0);
        Check.due("octet(3)", x.octet(3), 2);
    }

    private static void octet() {
        Check.part("promise 22");
        PointTables x = with(SQUARE);
        Check.dueNothingSuch("octet(0) ahead of any", () -> x.octet(0));
        x.code(0);
        dueOut(x, 1, 1, 1, 1, 1, 1, 1, 1, 1, 2);
        Check.dueNothingSuch("octet(-1)", () -> x.octet(-1));
        Check.dueNothingSuch("octet(least)", () -> x.octet(Integer.MIN_VALUE));
        Check.dueNothingSuch("octet(greatest)", () -> x.octet(Integer.MAX_VALUE));
        tape(x, 0, 1, 0);
        x.swept(1, 3);
        x.sweep(1);
        dueOut(x, 0, 1, 0);
        x.code(1);
        dueOut(x, 1);
        x.like(0, 1);
        x.which(0);
        x.named(2, 0);
        dueOut(x, 1);
    }

    private static void figures() {
        Check.part("promise 23");
        PointTables x = with(SQUARE);
        Check.due("figures(0, 3, false)", x.figures(0, 3, false), 10);
        Check.due("figures(0, 3, true)", x.figures(0, 3, true), 8);
        Check.due("figures(0, 4, false)", x.figures(0, 4, false), 3);
        Check.due("figures(0, 4, true)", x.figures(0, 4, true), 2);
        Check.due("figures(0, 5, false)", x.figures(0, 5, false), 0);
        Check.due("figures(0, 6, true)", x.figures(0, 6, true), 0);
        for (int m : new int[] {2, 7, 0, -1, Integer.MIN_VALUE, Integer.MAX_VALUE}) {
            Check.due("figures(0, " + m + ", false)", x.figures(0, m, false), NONE);
            Check.due("figures(0, " + m + ", true)", x.figures(0, m, true), NONE);
        }
        put(x, 1, INNER_FIRST);
        Check.due("figures(1, 4, false), the inner one first", x.figures(1, 4, false), 3);
        Check.due("figures(1, 3, true), the inner one first", x.figures(1, 3, true), 8);
        put(x, 1, HEXAGON);
        Check.due("figures(1, 6, true)", x.figures(1, 6, true), 1);
        Check.due("figures(1, 5, false)", x.figures(1, 5, false), 6);
        x.mirror(2, 1);
        Check.due("figures(2, 6, true) of the mirror", x.figures(2, 6, true), 1);
        put(x, 3, convex(10));
        Check.due("figures(3, 5, true)", x.figures(3, 5, true), 252);
        Check.due("figures(3, 6, false)", x.figures(3, 6, false), 210);
        Check.due("figures(4, 3, false)", x.figures(4, 3, false), NONE);
        x.flip(0, 0, 1, 4);
        x.flip(0, 1, 2, 4);
        x.flip(0, 2, 3, 4);
        Check.due("lawful(0)", x.lawful(0), 0);
        Check.due("figures(0, 3, false), not lawful", x.figures(0, 3, false), NONE);
        for (int s : WRONG_SLOTS) {
            Check.due("figures(" + s + ", 3, false)", x.figures(s, 3, false), NONE);
        }
    }

    private static void lines() {
        Check.part("promise 24");
        PointTables x = with(SQUARE);
        int[] want = {1, 2, 4, 3};
        for (int left = 0; left < 4; left++) {
            Check.due("lines(0, " + left + ")", x.lines(0, left), want[left]);
        }
        Check.due("lines(0, 4)", x.lines(0, 4), 0);
        Check.due("lines(0, -1)", x.lines(0, -1), 0);
        Check.due("lines(0, greatest)", x.lines(0, Integer.MAX_VALUE), 0);
        Check.due("lines(1, 0)", x.lines(1, 0), NONE);
        for (int s : WRONG_SLOTS) {
            Check.due("lines(" + s + ", 0)", x.lines(s, 0), NONE);
        }
        PointTables y = withBits(4, 0xa0000000);
        Check.due("lines(0, 1), not lawful", y.lines(0, 1), 6);
        Check.due("lines(0, 2), not lawful", y.lines(0, 2), 0);
    }

    private static void inside() {
        Check.part("promise 25");
        PointTables x = with(SQUARE);
        Check.due("inside 0 1 3", x.inside(0, 0, 1, 3, 4), 1);
        Check.due("inside 3 1 0", x.inside(0, 3, 1, 0, 4), 1);
        Check.due("inside 1 3 0", x.inside(0, 1, 3, 0, 4), 1);
        Check.due("inside 0 2 3", x.inside(0, 0, 2, 3, 4), 1);
        Check.due("inside 0 1 2", x.inside(0, 0, 1, 2, 4), 0);
        Check.due("inside 1 2 3", x.inside(0, 1, 2, 3, 4), 0);
        Check.due("a corner", x.inside(0, 0, 1, 4, 3), 0);
        for (int p : new int[] {0, 1, 2, 5, -1, 32, Integer.MIN_VALUE}) {
            Check.due("inside 0 1 2 " + p, x.inside(0, 0, 1, 2, p), NONE);
            Check.due("inside 0 1 " + p + " 2", x.inside(0, 0, 1, p, 2), NONE);
        }
        Check.due("inside 0 0 1 4", x.inside(0, 0, 0, 1, 4), NONE);
        Check.due("inside -1 0 1 4", x.inside(0, -1, 0, 1, 4), NONE);
        Check.due("inside(1, ..)", x.inside(1, 0, 1, 2, 3), NONE);
        for (int s : WRONG_SLOTS) {
            Check.due("inside(" + s + ", ..)", x.inside(s, 0, 1, 2, 3), NONE);
        }
        PointTables y = withBits(4, 0xa0000000);
        Check.due("inside(), not lawful", y.inside(0, 0, 1, 2, 3), 0);
        Check.due("inside(), not lawful", y.inside(0, 0, 2, 1, 3), 0);
    }

    private static void kinds() {
        Check.part("promise 26");
        PointTables x = new PointTables();
        int[] want = {NONE, NONE, NONE, 1, 2, 3, 16, NONE, NONE};
        for (int n = 0; n < want.length; n++) {
            Check.due("kinds(" + n + ")", x.kinds(n), want[n]);
        }
        Check.due("kinds(-3)", x.kinds(-3), NONE);
        Check.due("kinds(least)", x.kinds(Integer.MIN_VALUE), NONE);
        Check.due("kinds(greatest)", x.kinds(Integer.MAX_VALUE), NONE);
    }

    private static void kind() {
        Check.part("promise 27");
        PointTables x = new PointTables();
        Check.due("kind(0, 3, 0)", x.kind(0, 3, 0), true);
        Check.due("points(0)", x.points(0), 3);
        Check.due("kind(1, 5, 2)", x.kind(1, 5, 2), true);
        Check.due("rim(1)", x.rim(1), 3);
        Check.due("turn 1 2 3", x.turn(1, 1, 2, 3), 1);
        Check.due("turn 1 2 4", x.turn(1, 1, 2, 4), -1);
        Check.due("turn 1 3 4", x.turn(1, 1, 3, 4), -1);
        Check.due("turn 2 3 4", x.turn(1, 2, 3, 4), -1);
        Check.due("kind(2, 6, 15)", x.kind(2, 6, 15), true);
        Check.due("code(2)", x.code(2), 20);
        dueOut(x, 1, 1, 1, 1, 1, 1, 1, 1, 1, 1, 2, 2, 2, 1, 2, 2, 1, 1, 2, 2);
        Check.due("kind(2, 3, 1)", x.kind(2, 3, 1), false);
        Check.due("kind(2, 4, 2)", x.kind(2, 4, 2), false);
        Check.due("kind(2, 5, 3)", x.kind(2, 5, 3), false);
        Check.due("kind(2, 6, 16)", x.kind(2, 6, 16), false);
        Check.due("kind(2, 6, -1)", x.kind(2, 6, -1), false);
        Check.due("kind(2, 6, greatest)", x.kind(2, 6, Integer.MAX_VALUE), false);
        Check.due("kind(2, 2, 0)", x.kind(2, 2, 0), false);
        Check.due("kind(2, 7, 0)", x.kind(2, 7, 0), false);
        Check.due("which(2) stays", x.which(2), 15);
        for (int s : WRONG_SLOTS) {
            Check.due("kind(" + s + ", 3, 0)", x.kind(s, 3, 0), false);
        }
    }

    private static void which() {
        Check.part("promise 28");
        PointTables x = with(SQUARE);
        Check.due("which(0) of a square and a point", x.which(0), 1);
        put(x, 1, HEXAGON);
        Check.due("which(1) of a hexagon", x.which(1), 0);
        put(x, 2, TRIANGLE_FULL);
        Check.due("which(2)", x.which(2), 1);
        x.without(3, 2, 3);
        Check.due("which(3) of three", x.which(3), 0);
        x.flip(2, 0, 1, 2);
        Check.due("which(2), not lawful", x.which(2), NONE);
        put(x, 4, 0, 0, 1, 1, 2, 4, 3, 9, 4, 16, 5, 25, 6, 36);
        Check.due("which(4) of seven", x.which(4), NONE);
        Check.due("which(5)", x.which(5), NONE);
        for (int s : WRONG_SLOTS) {
            Check.due("which(" + s + ")", x.which(s), NONE);
        }
        for (int k = 0; k < 16; k++) {
            x.kind(0, 6, k);
            tape(x, 3, 5, 0, 4, 1, 2);
            x.rename(1, 0);
            Check.due("which(1) of kind " + k + " by other names", x.which(1), k);
            x.mirror(1, 1);
            Check.due("which(1) of kind " + k + " in a mirror", x.which(1), k);
        }
    }

    private static void points() {
        Check.part("promise 29");
        PointTables x = with(SQUARE);
        Check.due("points(0)", x.points(0), 5);
        Check.due("points(1)", x.points(1), 0);
        x.kind(0, 3, 0);
        Check.due("points(0) of three", x.points(0), 3);
        tape(x, 0xa0);
        x.table(5, 4);
        Check.due("points(5), not lawful", x.points(5), 4);
        for (int s : WRONG_SLOTS) {
            Check.due("points(" + s + ")", x.points(s), 0);
        }
    }
}

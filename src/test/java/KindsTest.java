import java.util.List;

/** The kinds that the program has written out, against those found among all tables. */
public final class KindsTest {
    private KindsTest() {
    }

    public static void main(String[] args) {
        PointTables x = new PointTables();
        for (int n = 3; n <= 6; n++) {
            Check.part("kinds of " + n);
            List<String> found = Oracle.kindsOf(n);
            Check.due("kinds(" + n + ")", x.kinds(n), found.size());
            for (int k = 0; k < found.size(); k++) {
                checkKind(x, n, k, found.get(k));
            }
            Check.due("kind behind the last", x.kind(0, n, found.size()), false);
        }
        Check.finish();
    }

    private static void checkKind(PointTables x, int n, int k, String row) {
        Check.due("kind(0, " + n + ", " + k + ")", x.kind(0, n, k), true);
        Check.due("points of kind " + k, x.points(0), n);
        int at = 0;
        for (List<Integer> three : Oracle.subsets(n, 3)) {
            int turn = x.turn(0, three.get(0), three.get(1), three.get(2));
            Check.due("turn " + three + " of kind " + k, turn, row.charAt(at) == '1' ? 1 : -1);
            at++;
        }
        Check.due("which() of kind " + k, x.which(0), k);
        Check.due("which() of its mirror", x.mirror(1, 0) ? x.which(1) : -2, k);
    }
}

/**
 * Every table of 3 to 6 points there is, held against the oracle: why() of each, and of those of at
 * most 5 points and the lawful ones of 6 the other calls that ask of a table.
 */
public final class AllTablesTest {
    private static final int FEW = 5;
    private static final int MOST = 6;

    private final PointTables program = new PointTables();
    private final Oracle oracle = new Oracle();
    private final int n;

    private AllTablesTest(int n, int row) {
        this.n = n;
        same("feed", row << (32 - Bench.turnsOf(n)), 0, 0, 0, 0);
        same("table", 0, n);
    }

    public static void main(String[] args) {
        for (int n = 3; n <= MOST; n++) {
            int lawful = 0;
            for (int row = 0; row < 1 << Bench.turnsOf(n); row++) {
                Check.part("table " + row + " of " + n);
                AllTablesTest test = new AllTablesTest(n, row);
                test.same("why", 0);
                boolean isLawful = test.oracle.why(0) == 0;
                lawful += isLawful ? 1 : 0;
                // Of the million of six points the others are asked this alone, for their number.
                if (isLawful || n <= FEW) {
                    test.askAll();
                }
            }
            System.out.println(lawful + " lawful tables of " + n);
        }
        Check.finish();
    }

    private void same(String name, Object... with) {
        Check.due(name, Calls.answer(program, name, with), Calls.answer(oracle, name, with));
    }

    private void askAll() {
        same("lawful", 0);
        same("points", 0);
        askRim();
        same("code", 0);
        askOut();
        same("sweep", 0);
        askOut();
        askCounts();
        same("which", 0);
        same("mirror", 1, 0);
        same("named", 2, 0);
        same("like", 0, 0);
        same("like", 0, 1);
        same("like", 1, 2);
        same("without", 3, 0, n - 1);
        same("which", 3);
        askThrees();
    }

    private void askRim() {
        same("rim", 0);
        for (int k = 0; k <= n; k++) {
            same("onRim", 0, k);
            same("layer", 0, k);
        }
    }

    private void askOut() {
        for (int k = 0; k <= Bench.turnsOf(MOST); k++) {
            same("octet", k);
        }
    }

    private void askCounts() {
        for (int m = 3; m <= 6; m++) {
            same("figures", 0, m, false);
            same("figures", 0, m, true);
        }
        for (int left = 0; left < n; left++) {
            same("lines", 0, left);
        }
    }

    private void askThrees() {
        for (int i = 0; i < n; i++) {
            for (int j = i + 1; j < n; j++) {
                for (int k = j + 1; k < n; k++) {
                    same("turn", 0, i, j, k);
                    same("turn", 1, j, k, i);
                    same("turn", 2, k, j, i);
                    for (int p = 0; p < n; p++) {
                        same("inside", 0, i, j, k, p);
                    }
                }
            }
        }
    }
}

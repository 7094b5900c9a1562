import java.util.ArrayList;
import java.util.Arrays;
import java.util.Collections;
import java.util.HashMap;
import java.util.List;
import java.util.Map;
import java.util.NoSuchElementException;
import java.util.TreeSet;

/**
 * The document once more, written as plainly as its words allow and without regard to cost, so
 * that the program can be held against it. It shares no code and no way of thinking with it:
 * turns are kept three-fold, laws are tried on every order of the points, rows are texts.
 */
public final class Oracle {
    static final int NONE = -1;

    private final Turns[] slots = new Turns[6];
    private List<Integer> tape = new ArrayList<>();
    private List<Integer> out = new ArrayList<>();
    private int line = NONE;

    private static final List<List<String>> KINDS = new ArrayList<>();
    private static final Map<List<Integer>, List<List<Integer>>> ORDERS = new HashMap<>();
    private static final Map<Integer, List<List<Integer>>> SUBSETS = new HashMap<>();

    /** One table: at[i][j][k] is 1 or -1, 0 where two are the same. */
    static final class Turns {
        final int n;
        final int[][][] at;
        private String why;

        Turns(int n) {
            this.n = n;
            this.at = new int[n][n][n];
        }

        void put(int i, int j, int k, int turn) {
            why = null;
            at[i][j][k] = turn;
            at[j][k][i] = turn;
            at[k][i][j] = turn;
            at[i][k][j] = -turn;
            at[k][j][i] = -turn;
            at[j][i][k] = -turn;
        }

        static Turns ofRow(int n, String row) {
            Turns t = new Turns(n);
            int p = 0;
            for (int i = 0; i < n; i++) {
                for (int j = i + 1; j < n; j++) {
                    for (int k = j + 1; k < n; k++) {
                        t.put(i, j, k, row.charAt(p++) == '1' ? 1 : -1);
                    }
                }
            }
            return t;
        }

        Turns mirrored() {
            Turns m = new Turns(n);
            for (int i = 0; i < n; i++) {
                for (int j = 0; j < n; j++) {
                    for (int k = 0; k < n; k++) {
                        m.at[i][j][k] = -at[i][j][k];
                    }
                }
            }
            return m;
        }

        /** Point q of the new table is names.get(q) of this. */
        Turns renamed(List<Integer> names) {
            Turns m = new Turns(names.size());
            for (int i = 0; i < names.size(); i++) {
                for (int j = 0; j < names.size(); j++) {
                    for (int k = 0; k < names.size(); k++) {
                        m.at[i][j][k] = at[names.get(i)][names.get(j)][names.get(k)];
                    }
                }
            }
            return m;
        }

        String row() {
            StringBuilder b = new StringBuilder();
            for (int i = 0; i < n; i++) {
                for (int j = i + 1; j < n; j++) {
                    for (int k = j + 1; k < n; k++) {
                        b.append(at[i][j][k] == 1 ? '1' : '2');
                    }
                }
            }
            return b.toString();
        }

        int why() {
            if (why == null) {
                why = String.valueOf(findWhy());
            }
            return Integer.parseInt(why);
        }

        private int findWhy() {
            List<List<Integer>> fours = subsets(n, 4);
            for (List<Integer> four : fours) {
                for (List<Integer> o : orders(four)) {
                    int a = o.get(0);
                    int b = o.get(1);
                    int c = o.get(2);
                    int d = o.get(3);
                    if (at[a][b][d] == 1 && at[b][c][d] == 1 && at[c][a][d] == 1 && at[a][b][c] == -1) {
                        return bits(four);
                    }
                }
            }
            for (List<Integer> five : subsets(n, 5)) {
                for (List<Integer> o : orders(five)) {
                    int a = o.get(0);
                    int b = o.get(1);
                    int c = o.get(2);
                    int d = o.get(3);
                    int e = o.get(4);
                    int u = at[a][b][c] * at[a][d][e];
                    int v = -at[a][b][d] * at[a][c][e];
                    int w = at[a][b][e] * at[a][c][d];
                    if (u == v && v == w) {
                        return bits(five);
                    }
                }
            }
            return 0;
        }

        int next(List<Integer> among, int i) {
            for (int j : among) {
                boolean all = j != i;
                for (int k : among) {
                    all = all && (k == i || k == j || at[i][j][k] == 1);
                }
                if (all) {
                    return j;
                }
            }
            return NONE;
        }

        List<Integer> rim(List<Integer> among) {
            if (among.size() <= 2) {
                return among;
            }
            List<Integer> rim = new ArrayList<>();
            int first = NONE;
            for (int i : among) {
                if (first == NONE && next(among, i) != NONE) {
                    first = i;
                }
            }
            int p = first;
            do {
                rim.add(p);
                p = next(among, p);
            } while (p != first);
            return rim;
        }

        List<Integer> everyPoint() {
            List<Integer> all = new ArrayList<>();
            for (int i = 0; i < n; i++) {
                all.add(i);
            }
            return all;
        }

        /** The first row of this table alone, without its mirror. */
        String firstRow() {
            String best = null;
            for (int r : rim(everyPoint())) {
                List<Integer> names = everyPoint();
                names.remove(Integer.valueOf(r));
                names.sort((p, q) -> -at[r][p][q]);
                names.add(0, r);
                if (names.get(1) != next(everyPoint(), r)) {
                    throw new IllegalStateException("NEXT is not the first around the rim's point");
                }
                String row = renamed(names).row();
                if (best == null || row.compareTo(best) < 0) {
                    best = row;
                }
            }
            return best;
        }

        String code() {
            String own = firstRow();
            String other = mirrored().firstRow();
            return own.compareTo(other) <= 0 ? own : other;
        }
    }

    static int bits(List<Integer> points) {
        int bits = 0;
        for (int p : points) {
            bits += 1 << p;
        }
        return bits;
    }

    /** All sets of m of n points, each rising, in order. */
    static List<List<Integer>> subsets(int n, int m) {
        List<List<Integer>> known = SUBSETS.get(100 * n + m);
        if (known == null) {
            known = new ArrayList<>();
            addSubsets(n, m, 0, new ArrayList<>(), known);
            SUBSETS.put(100 * n + m, known);
        }
        return known;
    }

    private static void addSubsets(int n, int m, int from, List<Integer> begun, List<List<Integer>> all) {
        if (begun.size() == m) {
            all.add(new ArrayList<>(begun));
            return;
        }
        for (int p = from; p < n; p++) {
            begun.add(p);
            addSubsets(n, m, p + 1, begun, all);
            begun.remove(begun.size() - 1);
        }
    }

    static List<List<Integer>> orders(List<Integer> points) {
        List<List<Integer>> known = ORDERS.get(points);
        if (known == null) {
            known = findOrders(points);
            ORDERS.put(new ArrayList<>(points), known);
        }
        return known;
    }

    private static List<List<Integer>> findOrders(List<Integer> points) {
        List<List<Integer>> all = new ArrayList<>();
        if (points.isEmpty()) {
            all.add(new ArrayList<>());
            return all;
        }
        for (int p : points) {
            List<Integer> rest = new ArrayList<>(points);
            rest.remove(Integer.valueOf(p));
            for (List<Integer> order : findOrders(rest)) {
                order.add(0, p);
                all.add(order);
            }
        }
        return all;
    }

    static int threes(int n) {
        return subsets(n, 3).size();
    }

    /** All codes of lawful tables of n points, found among all tables; in order. */
    static List<String> kindsOf(int n) {
        while (KINDS.size() <= 6) {
            int size = KINDS.size();
            KINDS.add(size < 3 ? new ArrayList<>() : new ArrayList<>(findKinds(size)));
        }
        return n >= 3 && n <= 6 ? KINDS.get(n) : new ArrayList<>();
    }

    private static TreeSet<String> findKinds(int n) {
        TreeSet<String> found = new TreeSet<>();
        int length = threes(n);
        List<int[]> laws = new ArrayList<>();
        // The two patterns of each four that FOUR rules out, found from its words, to leave out
        // most of the million tables of six points at once.
        for (int pattern = 0; pattern < 16; pattern++) {
            Turns four = Turns.ofRow(4, rowOf(pattern, 4));
            if (four.why() == 15) {
                laws.add(new int[] {pattern});
            }
        }
        List<List<Integer>> threes = subsets(n, 3);
        List<int[]> fours = new ArrayList<>();
        for (List<Integer> f : subsets(n, 4)) {
            int[] at = new int[4];
            List<List<Integer>> inner = List.of(List.of(f.get(0), f.get(1), f.get(2)),
                    List.of(f.get(0), f.get(1), f.get(3)), List.of(f.get(0), f.get(2), f.get(3)),
                    List.of(f.get(1), f.get(2), f.get(3)));
            for (int i = 0; i < 4; i++) {
                at[i] = length - 1 - threes.indexOf(inner.get(i));
            }
            fours.add(at);
        }
        for (int row = 0; row < 1 << length; row++) {
            boolean may = true;
            for (int[] f : fours) {
                int pattern = (row >> f[0] & 1) << 3 | (row >> f[1] & 1) << 2 | (row >> f[2] & 1) << 1
                        | row >> f[3] & 1;
                for (int[] law : laws) {
                    may = may && pattern != law[0];
                }
            }
            if (may) {
                Turns t = Turns.ofRow(n, rowOf(row, length));
                if (t.why() == 0) {
                    found.add(t.code());
                }
            }
        }
        return found;
    }

    static String rowOf(int bits, int length) {
        StringBuilder b = new StringBuilder();
        for (int i = length - 1; i >= 0; i--) {
            b.append((bits >> i & 1) == 1 ? '2' : '1');
        }
        return b.toString();
    }

    private boolean slot(int s) {
        return 0 <= s && s <= 5;
    }

    private Turns at(int s) {
        return slot(s) ? slots[s] : null;
    }

    private Turns lawfulAt(int s) {
        Turns t = at(s);
        return t == null || t.why() != 0 ? null : t;
    }

    private List<Integer> takeTape() {
        List<Integer> taken = tape;
        tape = new ArrayList<>();
        return taken;
    }

    public int feed(int a, int b, int c, int d, int e) {
        if (tape.size() + 20 > 140) {
            return NONE;
        }
        for (int x : new int[] {a, b, c, d, e}) {
            for (byte y : java.nio.ByteBuffer.allocate(4).putInt(x).array()) {
                tape.add(Byte.toUnsignedInt(y));
            }
        }
        return tape.size();
    }

    public boolean end(int n) {
        if (n < 0 || n > tape.size()) {
            return false;
        }
        tape = new ArrayList<>(tape.subList(0, n));
        return true;
    }

    public int place(int s) {
        List<Integer> bytes = takeTape();
        int n = bytes.size() / 4;
        if (!slot(s) || bytes.size() != 4 * n || n < 3 || n > 10) {
            return 1;
        }
        long[] x = new long[n];
        long[] y = new long[n];
        for (int i = 0; i < n; i++) {
            x[i] = bytes.get(4 * i) * 256 + bytes.get(4 * i + 1);
            y[i] = bytes.get(4 * i + 2) * 256 + bytes.get(4 * i + 3);
            x[i] = x[i] >= 32768 ? x[i] - 65536 : x[i];
            y[i] = y[i] >= 32768 ? y[i] - 65536 : y[i];
            if (x[i] < -10000 || x[i] > 10000 || y[i] < -10000 || y[i] > 10000) {
                return 1;
            }
        }
        Turns t = new Turns(n);
        for (List<Integer> three : subsets(n, 3)) {
            int i = three.get(0);
            int j = three.get(1);
            int k = three.get(2);
            long area = (x[j] - x[i]) * (y[k] - y[i]) - (y[j] - y[i]) * (x[k] - x[i]);
            if (area == 0) {
                line = 100 * i + 10 * j + k;
                return 2;
            }
            t.put(i, j, k, area > 0 ? 1 : -1);
        }
        slots[s] = t;
        return 0;
    }

    public int line() {
        return line;
    }

    public boolean table(int s, int n) {
        List<Integer> bytes = takeTape();
        if (!slot(s) || n < 3 || n > 10 || bytes.size() * 8 < threes(n)) {
            return false;
        }
        StringBuilder row = new StringBuilder();
        for (int b : bytes) {
            row.append(rowOf(b, 8));
        }
        slots[s] = Turns.ofRow(n, row.toString());
        return true;
    }

    public int turn(int s, int i, int j, int k) {
        Turns t = at(s);
        if (t == null || Math.min(i, Math.min(j, k)) < 0 || Math.max(i, Math.max(j, k)) >= t.n) {
            return 0;
        }
        return t.at[i][j][k];
    }

    public boolean flip(int s, int i, int j, int k) {
        int turn = turn(s, i, j, k);
        if (turn == 0) {
            return false;
        }
        slots[s].put(i, j, k, -turn);
        return true;
    }

    public boolean mirror(int s, int t) {
        if (!slot(s) || at(t) == null) {
            return false;
        }
        slots[s] = at(t).mirrored();
        return true;
    }

    public boolean rename(int s, int t) {
        List<Integer> names = takeTape();
        if (!slot(s) || at(t) == null) {
            return false;
        }
        List<Integer> sorted = new ArrayList<>(names);
        sorted.sort(null);
        if (!sorted.equals(at(t).everyPoint())) {
            return false;
        }
        slots[s] = at(t).renamed(names);
        return true;
    }

    public boolean without(int s, int t, int p) {
        if (!slot(s) || at(t) == null || p < 0 || p >= at(t).n || at(t).n == 3) {
            return false;
        }
        List<Integer> left = at(t).everyPoint();
        left.remove(p);
        slots[s] = at(t).renamed(left);
        return true;
    }

    public int lawful(int s) {
        return at(s) == null ? NONE : at(s).why() == 0 ? 1 : 0;
    }

    public int why(int s) {
        return at(s) == null ? NONE : at(s).why();
    }

    public int rim(int s) {
        Turns t = lawfulAt(s);
        return t == null ? NONE : t.rim(t.everyPoint()).size();
    }

    public int onRim(int s, int k) {
        Turns t = lawfulAt(s);
        if (t == null || k < 0 || k >= rim(s)) {
            throw new NoSuchElementException();
        }
        return t.rim(t.everyPoint()).get(k);
    }

    public int layer(int s, int p) {
        Turns t = lawfulAt(s);
        if (t == null || p < 0 || p >= t.n) {
            return NONE;
        }
        return layerAmong(t, t.everyPoint(), p);
    }

    private int layerAmong(Turns t, List<Integer> among, int p) {
        List<Integer> rim = t.rim(among);
        if (rim.contains(p)) {
            return 0;
        }
        List<Integer> rest = new ArrayList<>(among);
        rest.removeAll(rim);
        return 1 + layerAmong(t, rest, p);
    }

    public int code(int s) {
        Turns t = lawfulAt(s);
        if (t == null) {
            return NONE;
        }
        out = new ArrayList<>();
        for (char c : t.code().toCharArray()) {
            out.add(c - '0');
        }
        return out.size();
    }

    public boolean named(int s, int t) {
        if (!slot(s) || lawfulAt(t) == null) {
            return false;
        }
        slots[s] = Turns.ofRow(at(t).n, at(t).code());
        return true;
    }

    public int like(int s, int t) {
        Turns a = lawfulAt(s);
        Turns b = lawfulAt(t);
        if (a == null || b == null) {
            return NONE;
        }
        return (a.firstRow().equals(b.firstRow()) ? 1 : 0)
                + (a.mirrored().firstRow().equals(b.firstRow()) ? 2 : 0);
    }

    public boolean swept(int s, int n) {
        List<Integer> row = takeTape();
        if (!slot(s) || n < 3 || n > 10 || row.size() != n * (n - 1) / 2) {
            return false;
        }
        List<Integer> order = new Turns(n).everyPoint();
        List<String> swaps = new ArrayList<>();
        for (int q : row) {
            if (q > n - 2 || order.get(q) > order.get(q + 1)) {
                return false;
            }
            swaps.add(order.get(q) + " " + order.get(q + 1));
            Collections.swap(order, q, q + 1);
        }
        Turns t = new Turns(n);
        for (List<Integer> three : subsets(n, 3)) {
            String ij = three.get(0) + " " + three.get(1);
            String jk = three.get(1) + " " + three.get(2);
            t.put(three.get(0), three.get(1), three.get(2),
                    swaps.indexOf(ij) < swaps.indexOf(jk) ? 1 : -1);
        }
        slots[s] = t;
        return true;
    }

    public int sweep(int s) {
        Turns t = at(s);
        if (t == null) {
            return NONE;
        }
        List<Integer> order = t.everyPoint();
        List<String> swaps = new ArrayList<>();
        List<Integer> places = new ArrayList<>();
        while (swaps.size() < t.n * (t.n - 1) / 2) {
            int place = NONE;
            for (int q = t.n - 2; q >= 0; q--) {
                if (order.get(q) < order.get(q + 1) && mayCome(t, swaps, order.get(q), order.get(q + 1))) {
                    place = q;
                }
            }
            if (place == NONE) {
                return NONE;
            }
            places.add(place);
            swaps.add(order.get(place) + " " + order.get(place + 1));
            Collections.swap(order, place, place + 1);
        }
        out = places;
        return out.size();
    }

    private boolean mayCome(Turns t, List<String> swaps, int a, int b) {
        for (int c = 0; c < t.n; c++) {
            if (c == a || c == b) {
                continue;
            }
            int[] p = {a, b, c};
            Arrays.sort(p);
            String ij = p[0] + " " + p[1];
            String ik = p[0] + " " + p[2];
            String jk = p[1] + " " + p[2];
            List<String> told = t.at[p[0]][p[1]][p[2]] == 1 ? List.of(ij, ik, jk) : List.of(jk, ik, ij);
            List<String> been = new ArrayList<>(swaps);
            been.retainAll(told);
            been.add(a + " " + b);
            if (!been.equals(told.subList(0, been.size()))) {
                return false;
            }
        }
        return true;
    }

    public int octet(int k) {
        if (k < 0 || k >= out.size()) {
            throw new NoSuchElementException();
        }
        return out.get(k);
    }

    public int figures(int s, int m, boolean empty) {
        Turns t = lawfulAt(s);
        if (t == null || m < 3 || m > 6) {
            return NONE;
        }
        int count = 0;
        for (List<Integer> set : subsets(t.n, m)) {
            if (t.rim(set).size() == m && !(empty && hasInside(t, set))) {
                count++;
            }
        }
        return count;
    }

    private boolean hasInside(Turns t, List<Integer> set) {
        for (int p = 0; p < t.n; p++) {
            boolean inside = !set.contains(p);
            for (int i : set) {
                inside = inside && t.at[i][t.next(set, i)][p] == 1;
            }
            if (inside) {
                return true;
            }
        }
        return false;
    }

    public int lines(int s, int left) {
        Turns t = at(s);
        if (t == null) {
            return NONE;
        }
        int count = 0;
        for (List<Integer> two : subsets(t.n, 2)) {
            int beside = 0;
            for (int k = 0; k < t.n; k++) {
                beside += t.at[two.get(0)][two.get(1)][k] == 1 ? 1 : 0;
            }
            count += beside == left ? 1 : 0;
        }
        return count;
    }

    public int inside(int s, int i, int j, int k, int p) {
        int turn = turn(s, i, j, k);
        if (turn == 0 || turn(s, i, j, p) == 0 || turn(s, j, k, p) == 0 || turn(s, k, i, p) == 0) {
            return NONE;
        }
        return turn(s, i, j, p) == turn && turn(s, j, k, p) == turn && turn(s, k, i, p) == turn ? 1 : 0;
    }

    public int kinds(int n) {
        return n < 3 || n > 6 ? NONE : kindsOf(n).size();
    }

    public boolean kind(int s, int n, int k) {
        if (!slot(s) || k < 0 || k >= kindsOf(n).size()) {
            return false;
        }
        slots[s] = Turns.ofRow(n, kindsOf(n).get(k));
        return true;
    }

    public int which(int s) {
        Turns t = lawfulAt(s);
        return t == null || t.n > 6 ? NONE : kindsOf(t.n).indexOf(t.code());
    }

    public int points(int s) {
        return at(s) == null ? 0 : at(s).n;
    }
}

import java.lang.reflect.Method;
import java.util.ArrayList;
import java.util.Arrays;
import java.util.Collections;
import java.util.List;
import java.util.Random;

/** Many runs of calls, ordinary and wrong ones, each answer held against the oracle's. */
public final class RunsTest {
    private static final int RUNS = 400;
    private static final int MOST_CALLS = 512;
    private static final int MOST_AT_ONCE = 100;

    private final Random dice;
    private final int run;
    private final PointTables program = new PointTables();
    private final Oracle oracle = new Oracle();
    private final List<String> calls = new ArrayList<>();
    private boolean failed = false;
    private final int most;

    private RunsTest(int run) {
        this.run = run;
        this.dice = new Random(run);
        this.most = run % 2 == 0 ? 10 : 6;
    }

    public static void main(String[] args) {
        for (int run = 0; run < RUNS; run++) {
            new RunsTest(run).go();
        }
        Check.finish();
    }

    private void go() {
        Check.part("run " + run);
        while (calls.size() < MOST_CALLS - MOST_AT_ONCE && !failed) {
            int throwOfDice = dice.nextInt(30);
            if (throwOfDice == 0) {
                askAll(slot());
            } else if (throwOfDice < 10) {
                makeSomething();
            } else {
                askAnything();
            }
        }
    }

    private void makeSomething() {
        int n = 3 + dice.nextInt(most - 2);
        switch (dice.nextInt(7)) {
            case 0:
            case 1:
                tape(places(n));
                call("place", slot());
                call("line");
                break;
            case 2:
                tape(bytes(15, 256));
                call("table", slot(), n);
                break;
            case 3:
                tape(swaps(n));
                call("swept", slot(), n);
                break;
            case 4:
                int t = slot();
                tape(order(oracle.points(t) == 0 ? n : oracle.points(t)));
                call("rename", slot(), t);
                break;
            case 5:
                call("kind", slot(), 3 + dice.nextInt(4), dice.nextInt(17));
                break;
            default:
                for (int i = 0; i < dice.nextInt(9); i++) {
                    call("feed", any(), any(), any(), any(), any());
                }
                call("end", dice.nextInt(150) - 5);
                break;
        }
    }

    private void askAll(int s) {
        int n = oracle.points(s);
        call("why", s);
        call("rim", s);
        for (int p = 0; p < n; p++) {
            call("layer", s, p);
            call("onRim", s, p);
        }
        for (int m = 3; m <= 6; m++) {
            call("figures", s, m, false);
            call("figures", s, m, true);
        }
        for (int left = 0; left < n - 1; left++) {
            call("lines", s, left);
        }
        call("which", s);
        call("like", s, dice.nextInt(6));
        call(dice.nextBoolean() ? "code" : "sweep", s);
        for (int k = 0; k <= Math.min(n * n / 2, 45); k++) {
            call("octet", k);
        }
    }

    private void askAnything() {
        List<Method> face = Calls.ofTheFace();
        Method m = face.get(dice.nextInt(face.size()));
        String name = m.getName();
        Object[] with = new Object[m.getParameterCount()];
        for (int i = 0; i < with.length; i++) {
            if (m.getParameterTypes()[i] == boolean.class) {
                with[i] = dice.nextBoolean();
            } else {
                with[i] = i == 0 ? firstFor(name) : small();
            }
        }
        call(name, with);
    }

    private int firstFor(String name) {
        return name.equals("octet") ? dice.nextInt(125) - 2 : dice.nextInt(20) == 0 ? any() : slot();
    }

    private int slot() {
        return dice.nextInt(30) == 0 ? dice.nextInt(9) - 2 : dice.nextInt(6);
    }

    private int small() {
        return dice.nextInt(60) == 0 ? any() : dice.nextInt(most + 2) - 1;
    }

    private int any() {
        int[] edges = {Integer.MIN_VALUE, Integer.MAX_VALUE, -1, 0, 1, 31, 32, 33, 100, 1000};
        return dice.nextBoolean() ? dice.nextInt() : edges[dice.nextInt(edges.length)];
    }

    private List<Integer> places(int n) {
        List<Integer> bytes = new ArrayList<>();
        int[] reaches = {3, 10, 100, 10000, 10001};
        int reach = reaches[dice.nextInt(reaches.length)];
        boolean round = dice.nextInt(4) == 0;
        for (int i = 0; i < n; i++) {
            int x = dice.nextInt(2 * reach + 1) - reach;
            int y = dice.nextInt(2 * reach + 1) - reach;
            if (round) {
                x = i * 3 - 10;
                y = x * x + (dice.nextInt(5) == 0 ? 40 : 0);
            }
            Collections.addAll(bytes, x >> 8 & 255, x & 255, y >> 8 & 255, y & 255);
        }
        if (dice.nextInt(20) == 0) {
            bytes.add(0);
        }
        return bytes;
    }

    private List<Integer> bytes(int most, int below) {
        List<Integer> bytes = new ArrayList<>();
        int count = dice.nextInt(4) == 0 ? dice.nextInt(most + 1) : most;
        boolean few = dice.nextBoolean();
        for (int i = 0; i < count; i++) {
            int b = dice.nextInt(below);
            bytes.add(few ? b & dice.nextInt(below) & dice.nextInt(below) : b);
        }
        return bytes;
    }

    private List<Integer> order(int n) {
        List<Integer> order = new ArrayList<>();
        for (int i = 0; i < n; i++) {
            order.add(i);
        }
        Collections.shuffle(order, dice);
        spoil(order);
        return order;
    }

    private List<Integer> swaps(int n) {
        List<Integer> order = new ArrayList<>();
        for (int i = 0; i < n; i++) {
            order.add(i);
        }
        List<Integer> row = new ArrayList<>();
        while (row.size() < n * (n - 1) / 2) {
            int q = dice.nextInt(n - 1);
            if (order.get(q) < order.get(q + 1)) {
                Collections.swap(order, q, q + 1);
                row.add(q);
            }
        }
        spoil(row);
        return row;
    }

    private void spoil(List<Integer> row) {
        switch (dice.nextInt(16)) {
            case 0:
                row.set(dice.nextInt(row.size()), dice.nextInt(256));
                break;
            case 1:
                row.add(dice.nextInt(3));
                break;
            case 2:
                row.remove(row.size() - 1);
                break;
            default:
                break;
        }
    }

    private void tape(List<Integer> bytes) {
        call("end", 0);
        for (int from = 0; from < bytes.size(); from += 20) {
            int[] five = new int[5];
            for (int i = 0; i < 20; i++) {
                int b = from + i < bytes.size() ? bytes.get(from + i) : dice.nextInt(256);
                five[i / 4] = five[i / 4] << 8 | b;
            }
            call("feed", five[0], five[1], five[2], five[3], five[4]);
        }
        call("end", bytes.size());
    }

    private void call(String name, Object... with) {
        String told = name + Arrays.toString(with);
        String got = Calls.answer(program, name, with);
        String want = Calls.answer(oracle, name, with);
        calls.add(told + " " + got);
        Check.due(told, got.equals(want), true);
        if (!got.equals(want) && !failed) {
            failed = true;
            System.out.println("got " + got + ", due is " + want + ", behind " + calls);
        }
    }
}

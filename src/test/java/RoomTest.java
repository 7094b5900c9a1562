import java.lang.management.ManagementFactory;

/** What a whole run of the dearest calls makes: all of it lives in one room. */
public final class RoomTest {
    private static final int ROUNDS = 30;
    /** Less than a single row of 120 numbers, and more than the measuring itself makes. */
    private static final long MOST_BYTES_BY_CALLS = 400;

    private RoomTest() {
    }

    public static void main(String[] args) {
        Check.part("the room");
        long least = Long.MAX_VALUE;
        // The machine makes things of its own when it meets code for the first time.
        for (int i = 0; i < 5; i++) {
            least = Math.min(least, bytesMadeByCalls(new PointTables()));
        }
        Check.due("calls make " + least + " bytes, at most 400", least <= MOST_BYTES_BY_CALLS, true);
        Check.finish();
    }

    private static long bytesMadeByCalls(PointTables x) {
        com.sun.management.ThreadMXBean bean =
                (com.sun.management.ThreadMXBean) ManagementFactory.getThreadMXBean();
        long me = Thread.currentThread().getId();
        long before = bean.getThreadAllocatedBytes(me);
        int sum = run(x);
        long after = bean.getThreadAllocatedBytes(me);
        Check.due("the run has answers", sum > 0, true);
        return after - before;
    }

    private static int run(PointTables x) {
        int sum = 0;
        for (int round = 0; round < ROUNDS; round++) {
            x.feed(0x00000000, 0x00010001, 0x00020004, 0x00030009, 0x00040010);
            x.feed(0x00050019, 0x00060024, 0x00070031, 0x00080040, 0x00090051);
            sum += x.place(0);
            sum += x.flip(0, round % 3, 4, 5) && x.flip(0, round % 3, 4, 5) ? 1 : 0;
            sum += x.code(0) + x.sweep(0) + x.figures(0, 5, true) + x.lines(0, 4) + x.layer(0, 9);
            sum += x.named(1, 0) && x.mirror(2, 0) && x.without(3, 0, 2) && x.kind(4, 6, 15) ? 1 : 0;
            sum += x.like(0, 2) + x.which(4) + x.kinds(6);
        }
        return sum;
    }
}

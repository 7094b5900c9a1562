import java.lang.management.ManagementFactory;
import java.lang.reflect.Array;
import java.lang.reflect.Field;
import java.lang.reflect.Modifier;

/** What a new object and a whole run of the dearest calls make: all of it lives in one room. */
public final class RoomTest {
    private static final int ROUNDS = 18;
    /** Less than a single row of 120 numbers, and more than the measuring itself makes. */
    private static final long MOST_BYTES_BY_CALLS = 400;
    private static final int ROOM_OBJECTS = 600_000;
    private static final int ROOM_ELEMENTS = 7_300_000;
    private static final int NEW_ONES_IN_A_ROOM = 1_000;

    private int objects = 0;
    private int elements = 0;

    private RoomTest() {
    }

    public static void main(String[] args) throws IllegalAccessException {
        Check.part("the room");
        long least = Long.MAX_VALUE;
        // The machine makes things of its own when it meets code for the first time.
        for (int i = 0; i < 5; i++) {
            least = Math.min(least, bytesMadeByCalls(new PointTables()));
        }
        Check.due("calls make " + least + " bytes, at most 400", least <= MOST_BYTES_BY_CALLS, true);
        checkNewOne();
        Check.finish();
    }

    private static long bytesMadeByCalls(PointTables x) {
        com.sun.management.ThreadMXBean bean =
                (com.sun.management.ThreadMXBean) ManagementFactory.getThreadMXBean();
        long me = Thread.currentThread().getId();
        long before = bean.getThreadAllocatedBytes(me);
        int sum = run(x);
        long after = bean.getThreadAllocatedBytes(me);
        Check.due("the run has answers", sum > 0, true);
        return after - before;
    }

    private static int run(PointTables x) {
        int sum = 0;
        for (int round = 0; round < ROUNDS; round++) {
            x.feed(0x00000000, 0x00010001, 0x00020004, 0x00030009, 0x00040010);
            x.feed(0x00050019, 0x00060024, 0x00070031, 0x00080040, 0x00090051);
            sum += x.place(0);
            sum += x.flip(0, round % 3, 4, 5) && x.flip(0, round % 3, 4, 5) ? 1 : 0;
            sum += x.code(0) + x.sweep(0) + x.figures(0, 5, true) + x.lines(0, 4) + x.layer(0, 9);
            sum += x.named(1, 0) && x.mirror(2, 0) && x.without(3, 0, 2) && x.kind(4, 6, 15) ? 1 : 0;
            sum += x.like(0, 2) + x.which(4) + x.kinds(6) + x.onRim(0, 9) + x.octet(44);
            x.feed(0x09080706, 0x05040302, 0x01000000, 0, 0);
            sum += x.end(10) && x.rename(5, 0) ? x.why(5) : 0;
            x.feed(0x00010000, 0, 0, 0, 0);
            sum += x.end(3) && x.swept(5, 3) && !x.table(5, 3) ? x.inside(0, 0, 1, 2, 3) : 0;
        }
        return sum;
    }

    private static void checkNewOne() throws IllegalAccessException {
        RoomTest made = new RoomTest();
        made.count(new PointTables());
        Check.due(made.objects + " objects and arrays of a new one",
                made.objects > 0 && made.objects <= ROOM_OBJECTS / NEW_ONES_IN_A_ROOM, true);
        Check.due(made.elements + " fields and elements of a new one",
                made.elements > 0 && made.elements <= ROOM_ELEMENTS / NEW_ONES_IN_A_ROOM, true);
    }

    /** An object and all that it holds; none of these holds another that holds it. */
    private void count(Object one) throws IllegalAccessException {
        objects++;
        if (one.getClass().isArray()) {
            elements += Array.getLength(one);
            for (int i = 0; i < Array.getLength(one) && one instanceof Object[]; i++) {
                countHeld(Array.get(one, i));
            }
            return;
        }
        for (Field f : one.getClass().getDeclaredFields()) {
            if (!Modifier.isStatic(f.getModifiers())) {
                elements++;
                f.setAccessible(true);
                countHeld(f.getType().isPrimitive() ? null : f.get(one));
            }
        }
    }

    private void countHeld(Object held) throws IllegalAccessException {
        if (held != null) {
            count(held);
        }
    }
}

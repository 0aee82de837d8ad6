import java.lang.management.ManagementFactory;
import java.lang.reflect.Array;
import java.lang.reflect.Field;
import java.lang.reflect.Modifier;
import java.util.Collections;
import java.util.IdentityHashMap;
import java.util.Set;

/** All calls of one run live in one room: a chip is small, and calls on it make next to nothing. */
public final class RoomTest {
    private static final int MOST_OBJECTS = 200;
    private static final int MOST_PLACES = 5000;

    /** The row of begun handlers grows a few times; nothing else is made by a call. */
    private static final long MOST_BYTES_OF_CALLS = 100000;

    private static int faults = 0;

    private final Set<Object> seen = Collections.newSetFromMap(new IdentityHashMap<>());
    private int places = 0;

    private RoomTest() {
    }

    private void walk(Object value) throws IllegalAccessException {
        if (value == null || !seen.add(value)) {
            return;
        }
        if (value.getClass().isArray()) {
            places += Array.getLength(value);
            return;
        }
        for (Field field : value.getClass().getDeclaredFields()) {
            if (Modifier.isStatic(field.getModifiers())) {
                continue;
            }
            places++;
            if (!field.getType().isPrimitive()) {
                field.setAccessible(true);
                walk(field.get(value));
            }
        }
    }

    private static void most(String what, long got, long most) {
        System.out.println(what + ": " + got + ", at most " + most);
        if (got > most) {
            faults++;
        }
    }

    private static long bytesMade() {
        com.sun.management.ThreadMXBean threads =
                (com.sun.management.ThreadMXBean) ManagementFactory.getThreadMXBean();
        return threads.getThreadAllocatedBytes(Thread.currentThread().getId());
    }

    private static long bytesOfCalls() {
        Tickstation chip = Bench.busy(0);
        Tickstation deep = new Tickstation();
        long before = bytesMade();
        for (int i = 0; i < 400; i++) {
            chip.run(5000);
            chip.runByBeats(500);
            chip.isConsistent();
            chip.toEvent();
            deep.setLine((i + 1) % 2, 7, true);
            deep.setLine(i % 2, 6, true);
            deep.request(i % 2);
            deep.run(5);
            deep.isConsistent();
        }
        return bytesMade() - before;
    }

    public static void main(String[] args) throws IllegalAccessException {
        RoomTest room = new RoomTest();
        room.walk(new Tickstation());
        most("objects and arrays of a chip", room.seen.size(), MOST_OBJECTS);
        most("fields and elements of a chip", room.places, MOST_PLACES);
        bytesOfCalls();
        most("bytes of 2000 calls that go on", bytesOfCalls(), MOST_BYTES_OF_CALLS);
        if (faults != 0) {
            System.exit(1);
        }
    }
}

import com.sun.management.ThreadMXBean;
import java.lang.management.ManagementFactory;
import java.lang.reflect.Array;
import java.lang.reflect.Field;
import java.lang.reflect.Modifier;
import java.util.ArrayDeque;
import java.util.Collections;
import java.util.Deque;
import java.util.IdentityHashMap;
import java.util.Set;

/** All calls of a run share one room, so an object is small and its calls make no further ones. */
public final class RoomTest {
    private static final int MOST_OBJECTS = 60;
    private static final int MOST_ELEMENTS = 5000;
    // The smallest object, made by one call of each round, would be more than this.
    private static final long MOST_BYTES_MADE = 256;

    private int objects = 0;
    private int elements = 0;

    private RoomTest() {
    }

    public static void main(String[] args) throws IllegalAccessException {
        CarrierLink link = new CarrierLink();
        small("a new object", link);
        // The first calls load classes; those that are measured come behind them.
        calls(link);
        makesNothing();
        small("a used object", link);
        Check.end();
    }

    private static void makesNothing() {
        ThreadMXBean threads = (ThreadMXBean) ManagementFactory.getThreadMXBean();
        long thread = Thread.currentThread().getId();
        CarrierLink link = new CarrierLink();
        threads.getThreadAllocatedBytes(thread);
        long before = threads.getThreadAllocatedBytes(thread);
        calls(link);
        long made = threads.getThreadAllocatedBytes(thread) - before;
        Check.holds("bytes made by calls: " + made, made <= MOST_BYTES_MADE);
    }

    /** Each call of the face, none of them throwing: 480 in all. */
    private static void calls(CarrierLink link) {
        for (int k = 0; k < 32; k++) {
            link.wipe();
            link.put(8, 81985529216486895L * k);
            link.put(4, k);
            link.send(k % 4, k + 1);
            link.bit(2, k);
            link.sample(false, k, true);
            link.air(k, k % 4, k % 3);
            link.disturb(k, (short) k, (short) -k);
            link.stir(60 * k, k);
            link.cut(170 + 10 * k);
            link.receive();
            link.got(k);
            link.heard(k);
            link.learned(k, true);
            link.sample(true, k, false);
        }
    }

    private static void small(String what, CarrierLink link) throws IllegalAccessException {
        RoomTest room = new RoomTest();
        room.count(link);
        Check.holds(what + " has " + room.objects + " objects", room.objects <= MOST_OBJECTS);
        Check.holds(what + " has " + room.elements + " elements", room.elements <= MOST_ELEMENTS);
    }

    private void count(Object first) throws IllegalAccessException {
        Set<Object> seen = Collections.newSetFromMap(new IdentityHashMap<>());
        Deque<Object> open = new ArrayDeque<>();
        open.add(first);
        while (!open.isEmpty()) {
            Object one = open.remove();
            if (seen.add(one)) {
                objects++;
                if (one.getClass().isArray()) {
                    elements += Array.getLength(one);
                } else {
                    follow(one, open);
                }
            }
        }
    }

    private void follow(Object one, Deque<Object> open) throws IllegalAccessException {
        for (Field field : one.getClass().getDeclaredFields()) {
            if (!Modifier.isStatic(field.getModifiers())) {
                elements++;
                field.setAccessible(true);
                if (!field.getType().isPrimitive()) {
                    open.add(field.get(one));
                }
            }
        }
    }
}

import java.lang.management.ManagementFactory;
import java.lang.reflect.Array;
import java.lang.reflect.Field;
import java.lang.reflect.Modifier;
import java.util.ArrayDeque;
import java.util.Collections;
import java.util.Deque;
import java.util.IdentityHashMap;
import java.util.Set;

/** All calls of a run live in one room: an object is small, and calls make no objects. */
public final class RoomTest {
    private static final int MOST_OBJECTS = 200;
    private static final int MOST_ELEMENTS = 6000;
    private static final int CALLS = 512;

    private static long objects = 0;
    private static long elements = 0;
    private static long sink = 0;

    private static void count(Object root) throws IllegalAccessException {
        Set<Object> met = Collections.newSetFromMap(new IdentityHashMap<>());
        Deque<Object> open = new ArrayDeque<>();
        open.add(root);
        while (!open.isEmpty()) {
            Object o = open.remove();
            if (!met.add(o)) {
                continue;
            }
            objects++;
            if (o.getClass().isArray()) {
                countArray(o, open);
            } else {
                countFields(o, open);
            }
        }
    }

    private static void countArray(Object array, Deque<Object> open) {
        elements += Array.getLength(array);
        if (array instanceof Object[] held) {
            for (Object o : held) {
                open.add(o);
            }
        }
    }

    private static void countFields(Object o, Deque<Object> open) throws IllegalAccessException {
        for (Field f : o.getClass().getDeclaredFields()) {
            if (Modifier.isStatic(f.getModifiers())) {
                continue;
            }
            elements++;
            if (!f.getType().isPrimitive()) {
                f.setAccessible(true);
                open.add(f.get(o));
            }
        }
    }

    private static void callEach(FrameDesk x, int i) {
        sink += x.drift(3) + x.put(i % 6, i % 90, i) + x.change(i % 7, FrameDesk.MISSING, 3) + x.ahead(i % 2 == 0);
        sink += x.frame(i % 3, FrameDesk.OPEN, i % 20, i % 4) + x.take(i % 5) + x.undo(1 + i % 3);
        for (int what = 0; what < 12; what++) {
            sink += x.told(what) + x.row(i % 9, what) + x.of(i % 9, what) + x.best(what);
        }
        sink += x.rows(1) + x.inFrame(2, 1) + x.heap(1, 3) + x.shift(1, 1) + x.would(1, 1) + x.standing(3);
        sink += x.write(1, 1, 1) + x.seed(i) + x.keep(i % 2) + x.goBack(i % 2) + (i % 30 == 0 ? x.tear() : 0);
    }

    private static long bytesMade() {
        return ((com.sun.management.ThreadMXBean) ManagementFactory.getThreadMXBean()).getCurrentThreadAllocatedBytes();
    }

    public static void main(String[] args) throws IllegalAccessException {
        FrameDesk x = new FrameDesk();
        callEach(x, 0);
        bytesMade();
        long before = bytesMade();
        for (int i = 0; i < CALLS; i++) {
            callEach(x, i);
        }
        long made = bytesMade() - before;
        count(x);
        System.out.println(objects + " objects, " + elements + " fields and elements; " + CALLS
            + " times each call made " + made + " bytes (" + (sink == 0 ? "" : "answers used") + ")");
        // The machine itself may make a little while it measures; an object a call would be far more.
        if (objects > MOST_OBJECTS || elements > MOST_ELEMENTS || made > 4096) {
            System.exit(1);
        }
    }
}

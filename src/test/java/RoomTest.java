import java.lang.management.ManagementFactory;
import java.lang.reflect.Array;
import java.lang.reflect.Field;
import java.lang.reflect.Modifier;
import java.util.ArrayDeque;
import java.util.Collections;
import java.util.Deque;
import java.util.IdentityHashMap;
import java.util.Set;

/** The room: what an object holds, and what 512 of the dearest calls make. */
public final class RoomTest {
    private static final int CALLS = 512;
    // Far below the 600,000 objects and 7.3 million fields and elements that a run has in all.
    private static final int MOST_OBJECTS = 1000, MOST_ELEMENTS = 40000;
    private static final long MOST_BYTES = 2000000;
    private static final Due due = new Due("RoomTest");

    public static void main(String[] args) throws IllegalAccessException {
        SpinBench bench = new SpinBench(4);
        held("a new object", bench);
        dearCalls(bench);
        held("after many calls", bench);
        programCalls();
        due.end();
    }

    private static void held(String when, Object root) throws IllegalAccessException {
        Set<Object> seen = Collections.newSetFromMap(new IdentityHashMap<>());
        Deque<Object> left = new ArrayDeque<>();
        left.add(root);
        long elements = 0;
        while (!left.isEmpty()) {
            Object one = left.remove();
            if (!seen.add(one)) {
                continue;
            }
            elements += one.getClass().isArray() ? elementsOf(one, left) : fieldsOf(one, left);
        }
        System.out.println("RoomTest: " + when + ": " + seen.size() + " objects, " + elements + " fields and elements");
        due.holds(when + ": few objects", seen.size() <= MOST_OBJECTS);
        due.holds(when + ": few fields and elements", elements <= MOST_ELEMENTS);
    }

    private static int elementsOf(Object array, Deque<Object> left) {
        int length = Array.getLength(array);
        if (!array.getClass().getComponentType().isPrimitive()) {
            for (int i = 0; i < length; i++) {
                if (Array.get(array, i) != null) {
                    left.add(Array.get(array, i));
                }
            }
        }
        return length;
    }

    private static int fieldsOf(Object one, Deque<Object> left) throws IllegalAccessException {
        int fields = 0;
        for (Class<?> type = one.getClass(); type != Object.class; type = type.getSuperclass()) {
            for (Field field : type.getDeclaredFields()) {
                if (Modifier.isStatic(field.getModifiers())) {
                    continue;
                }
                fields++;
                field.setAccessible(true);
                if (!field.getType().isPrimitive() && field.get(one) != null) {
                    left.add(field.get(one));
                }
            }
        }
        return fields;
    }

    /** Bytes that this thread has made so far; 0 where the machine does not count them. */
    private static long made() {
        if (ManagementFactory.getThreadMXBean() instanceof com.sun.management.ThreadMXBean threads
                && threads.isThreadAllocatedMemorySupported() && threads.isThreadAllocatedMemoryEnabled()) {
            return threads.getThreadAllocatedBytes(Thread.currentThread().getId());
        }
        return 0;
    }

    private static void dearCalls(SpinBench bench) {
        for (int p = 0; p < 200; p++) {
            bench.add(-1, p, 1 + p);
        }
        bench.letter(1, 0, 1);
        bench.letter(64, 1, 1);
        bench.take(0, -1);
        long ahead = made();
        for (int i = 0; i < CALLS; i++) {
            bench.take(-1, 0);
            bench.letter(i % 256, i % 4, 1);
            bench.quarter(i % 256, i % 4);
            bench.product(1, 0, 0);
            bench.join(2, 0, 1);
            bench.digest(0);
        }
        due.holds("dear calls on sums make next to nothing", made() - ahead < MOST_BYTES);
    }

    private static void programCalls() {
        SpinBench bench = new SpinBench(4);
        bench.table(0, 2, 60);
        for (int p = 0; p < 200; p++) {
            bench.add(-1, p, 1);
        }
        bench.round(8);
        bench.round(6);
        for (int i = 0; i < 8; i++) {
            bench.cycled(15, i % 4, 1, 0);
        }
        bench.store(0, 1);
        bench.end();
        bench.end();
        due.is("a long run", bench.run(), 497);
        long ahead = made();
        for (int i = 0; i < CALLS; i++) {
            bench.run();
            bench.ask(i % 10, i % 2);
            bench.back();
            bench.end();
            bench.table(1, 1, 60);
        }
        due.holds("runs make next to nothing", made() - ahead < MOST_BYTES);
    }
}

import java.lang.management.ManagementFactory;
import java.lang.reflect.Array;
import java.lang.reflect.Field;
import java.lang.reflect.Modifier;
import java.util.Collections;
import java.util.IdentityHashMap;
import java.util.Random;
import java.util.Set;

/**
 * What a store takes of the one room that all calls of a run live in (some 600,000 objects and
 * arrays, 7.3 million fields and elements): little when it is made, and nothing more by its calls.
 */
public final class RoomTest {
    private static final int MOST_OBJECTS = 24;
    private static final int MOST_PARTS = 2400;
    private static final int CALLS = 512;
    // So few that the compiler, which could save an object, has not come to them yet.
    private static final int STORES = 4;
    private static final int ROUNDS = 3;
    // Each call comes some sixty times in a round, and the smallest object has 16 bytes.
    private static final int BYTES_OF_NO_CALL = 500;

    private final Due due = new Due();
    private final Set<Object> objects = Collections.newSetFromMap(new IdentityHashMap<>());
    private long parts;

    public static void main(String[] args) throws IllegalAccessException {
        RoomTest t = new RoomTest();
        t.whatAStoreKeeps();
        t.whatItsCallsMake();
        t.due.finish();
    }

    private void whatAStoreKeeps() throws IllegalAccessException {
        due.part("what a store keeps");
        TailedStore x = new TailedStore(8, 6);
        measure(x);
        int newObjects = objects.size();
        long newParts = parts;
        due.is(newObjects + " objects are few", true, newObjects <= MOST_OBJECTS);
        due.is(newParts + " fields and elements are few", true, newParts <= MOST_PARTS);
        callAll(x, calls(1));
        measure(x);
        due.is("objects after " + CALLS + " calls", newObjects, objects.size());
        due.is("fields and elements after " + CALLS + " calls", newParts, parts);
    }

    private void whatItsCallsMake() {
        due.part("what the calls make");
        long least = Long.MAX_VALUE;
        // The first round may load classes; the least of them is what the calls themselves make.
        for (int round = 0; round < ROUNDS; round++) {
            least = Math.min(least, bytesOfAllCalls());
        }
        due.is(STORES * CALLS + " calls make no objects, but " + least + " bytes were made", true,
            least < BYTES_OF_NO_CALL);
    }

    private static long bytesOfAllCalls() {
        TailedStore[] stores = new TailedStore[STORES];
        int[][][] calls = new int[STORES][][];
        for (int i = 0; i < STORES; i++) {
            stores[i] = new TailedStore(3 + i % 6, 1 + i % 5);
            calls[i] = calls(i);
        }
        // The measuring makes some bytes of its own.
        long first = bytesMade();
        long before = bytesMade();
        for (int i = 0; i < STORES; i++) {
            callAll(stores[i], calls[i]);
        }
        return bytesMade() - before - (before - first);
    }

    private static long bytesMade() {
        com.sun.management.ThreadMXBean threads =
            (com.sun.management.ThreadMXBean) ManagementFactory.getThreadMXBean();
        return threads.getThreadAllocatedBytes(Thread.currentThread().getId());
    }

    private static int[][] calls(int seed) {
        Random random = new Random(seed);
        int[][] calls = new int[CALLS][];
        for (int n = 0; n < CALLS; n++) {
            calls[n] = new int[] {AnyCall.kind(random), random.nextInt(32), random.nextInt(7)};
        }
        return calls;
    }

    private static void callAll(TailedStore x, int[][] calls) {
        for (int[] call : calls) {
            AnyCall.answer(x, call[0], call[1], call[2]);
        }
    }

    private void measure(Object start) throws IllegalAccessException {
        objects.clear();
        parts = 0;
        visit(start);
    }

    private void visit(Object o) throws IllegalAccessException {
        if (o == null || !objects.add(o)) {
            return;
        }
        if (o.getClass().isArray()) {
            parts += Array.getLength(o);
            for (int i = 0; !o.getClass().getComponentType().isPrimitive() && i < Array.getLength(o); i++) {
                visit(Array.get(o, i));
            }
            return;
        }
        for (Field f : o.getClass().getDeclaredFields()) {
            if (!Modifier.isStatic(f.getModifiers())) {
                parts++;
                if (!f.getType().isPrimitive()) {
                    f.setAccessible(true);
                    visit(f.get(o));
                }
            }
        }
    }
}

import java.lang.management.ManagementFactory;
import java.lang.reflect.Array;
import java.lang.reflect.Field;
import java.lang.reflect.Modifier;
import java.util.ArrayDeque;
import java.util.Collections;
import java.util.Deque;
import java.util.IdentityHashMap;
import java.util.Set;

/** All calls live in one room: an object is small, and no call makes anything. */
public final class RoomTest {
    private static final Checks C = new Checks("RoomTest");
    private static final int MOST_OBJECTS = 60, MOST_ELEMENTS = 800;

    public static void main(String[] args) throws ReflectiveOperationException {
        objectIsSmall();
        callsMakeNothing();
        C.end();
    }

    private static void objectIsSmall() throws ReflectiveOperationException {
        Set<Object> met = Collections.newSetFromMap(new IdentityHashMap<>());
        Deque<Object> open = new ArrayDeque<>();
        open.add(new YardNames());
        int elements = 0;
        while (!open.isEmpty()) {
            Object o = open.remove();
            if (!met.add(o)) {
                continue;
            }
            elements += o.getClass().isArray() ? ofArray(o, open) : ofObject(o, open);
        }
        C.due(met.size() + " objects are few", met.size() <= MOST_OBJECTS ? 1 : 0, 1);
        C.due(elements + " elements are few", elements <= MOST_ELEMENTS ? 1 : 0, 1);
    }

    private static int ofArray(Object array, Deque<Object> open) {
        for (int i = 0; i < Array.getLength(array); i++) {
            if (!array.getClass().getComponentType().isPrimitive() && Array.get(array, i) != null) {
                open.add(Array.get(array, i));
            }
        }
        return Array.getLength(array);
    }

    private static int ofObject(Object o, Deque<Object> open) throws ReflectiveOperationException {
        int fields = 0;
        for (Field f : o.getClass().getDeclaredFields()) {
            if (Modifier.isStatic(f.getModifiers())) {
                continue;
            }
            fields++;
            f.setAccessible(true);
            if (!f.getType().isPrimitive() && f.get(o) != null) {
                open.add(f.get(o));
            }
        }
        return fields;
    }

    private static void callsMakeNothing() {
        com.sun.management.ThreadMXBean threads =
            (com.sun.management.ThreadMXBean) ManagementFactory.getThreadMXBean();
        YardNames x = Checks.withSea(Checks.SEA);
        long sum = 0;
        long least = Long.MAX_VALUE;
        // The machine itself may make something beside a round, so the leanest round counts.
        for (int round = 0; round < 12; round++) {
            long before = threads.getCurrentThreadAllocatedBytes();
            sum += allCalls(x, round);
            least = Math.min(least, threads.getCurrentThreadAllocatedBytes() - before);
        }
        C.due(least + " bytes for a round of all calls are few", least < 512 ? 1 : 0, 1);
        C.due("all was called", sum == 0 ? 1 : 0, 0);
    }

    private static long allCalls(YardNames x, int round) {
        int k = round % 4;
        long sum = x.sea(0, 0, 0, 41) + x.ofShip(k, 6) + x.rough(k) + x.blow(k, 4) + x.name(k, 1);
        sum += x.days(9) + x.load(k, 0, 1) + x.off(k, 0, 1);
        sum += x.sheet(1, 2, 4) + x.put(1, 0, 9) + x.put(1, 1, 8) + x.voyage(1, 2, 0, 1, 0);
        sum += x.keeps(k) + x.harbour(k, 30, 0) + x.stow(k, 30, 12, 0) + x.cover();
        sum += x.reading(k, k, 0) + x.strengths(k) + x.kinds(k) + x.back(1);
        sum += x.names(1, 2, 0, k, 9) + x.odds(k, 0, 0) + x.premium(k, 0);
        sum += x.cell(1, 0, 2) + x.copy(1, 0, 1, 1, 3) + x.lose(1) + x.tell(k) + x.hail(k);
        return sum + x.as(k, 2) + x.trace() + x.fault() + x.many(3);
    }
}

import java.lang.management.ManagementFactory;
import java.lang.reflect.Array;
import java.lang.reflect.Field;
import java.lang.reflect.Modifier;
import java.util.Collections;
import java.util.IdentityHashMap;
import java.util.Set;

/** The room of a run: what an object holds, and that its calls make nothing more. */
public final class RoomTest {
    private static final long MOST_OBJECTS = 600_000 / Loom.MOST_CALLS;
    private static final long MOST_ELEMENTS = 7_300_000 / Loom.MOST_CALLS;

    private final Set<Object> seen = Collections.newSetFromMap(new IdentityHashMap<>());
    private long elements;

    public static void main(String[] args) throws IllegalAccessException {
        Loom x = new Loom();
        RoomTest before = new RoomTest();
        before.walk(x);
        // Every call of a run could be a constructor.
        Check.due("objects of one object fit", true, before.seen.size() < MOST_OBJECTS);
        Check.due("elements of one object fit", true, before.elements < MOST_ELEMENTS);
        dearCalls(new Loom());
        long made = made();
        dearCalls(x);
        Check.due("calls make nothing", true, made() - made < 10_000);
        RoomTest after = new RoomTest();
        after.walk(x);
        Check.due("objects behind the calls", before.seen.size(), after.seen.size());
        Check.due("elements behind the calls", before.elements, after.elements);
        Check.end();
    }

    private static long made() {
        com.sun.management.ThreadMXBean threads =
                (com.sun.management.ThreadMXBean) ManagementFactory.getThreadMXBean();
        return threads.getThreadAllocatedBytes(Thread.currentThread().getId());
    }

    private static void dearCalls(Loom x) {
        x.add(0, 0, 1, 0, 8);
        x.add(0, 1);
        x.add(1, 9);
        x.add(1);
        for (int i = 0; x.calls() < Loom.MOST_CALLS - 50; i++) {
            int last = x.rule(2);
            x.shortest(0);
            x.shortestWith(0);
            x.circle();
            x.trees(0, 16);
            x.treesWith(i % 4, 16);
            int rules = x.draw(0, 4, i);
            for (int j = 0; j < rules; j++) {
                x.list(x.row(j));
            }
            x.number(0);
            x.leaf(3);
            x.about(0, 0);
            x.count(0);
            x.drop(last);
        }
    }

    private void walk(Object object) throws IllegalAccessException {
        if (object == null || !seen.add(object)) {
            return;
        }
        Class<?> kind = object.getClass();
        if (kind.isArray()) {
            elements += Array.getLength(object);
            return;
        }
        for (Field field : kind.getDeclaredFields()) {
            if (!Modifier.isStatic(field.getModifiers())) {
                elements++;
                if (!field.getType().isPrimitive()) {
                    field.setAccessible(true);
                    walk(field.get(object));
                }
            }
        }
    }
}

import java.lang.management.ManagementFactory;
import java.lang.reflect.Array;
import java.lang.reflect.Field;
import java.lang.reflect.Modifier;
import java.util.Collections;
import java.util.IdentityHashMap;
import java.util.Set;

/** A run lives in one room: the object stays small, and its calls make next to nothing. */
public final class RoomTest {
    private static final int MOST_OBJECTS = 1000, MOST_ITEMS = 200000, MOST_BYTES = 16384;
    private static long objects = 0;
    private static long items = 0;

    public static void main(String[] args) throws IllegalAccessException {
        Check check = new Check();
        ShownOnce x = new ShownOnce();
        runOf512(x);
        weigh(x, Collections.newSetFromMap(new IdentityHashMap<>()));
        System.out.println("objects " + objects + ", fields and elements " + items);
        check.due("few objects", objects <= MOST_OBJECTS ? 1 : 0, 1);
        check.due("few fields and elements", items <= MOST_ITEMS ? 1 : 0, 1);
        ShownOnce y = new ShownOnce();
        long before = allocated();
        runOf512(y);
        long made = allocated() - before;
        System.out.println("bytes made by 512 calls: " + made);
        check.due("calls make nothing", made <= MOST_BYTES ? 1 : 0, 1);
        runOf512(y);
        check.due("later calls end too", y.count(0), 12);
        check.close("RoomTest");
    }

    private static long allocated() {
        com.sun.management.ThreadMXBean bean = (com.sun.management.ThreadMXBean) ManagementFactory.getThreadMXBean();
        return bean.getThreadAllocatedBytes(Thread.currentThread().getId());
    }

    /** The dearest calls again and again, on things of which very many programs fit. */
    private static void runOf512(ShownOnce x) {
        long w = 0x6161616161616161L;
        int calls = 0;
        for (int i = 0; i < 12; i++) {
            x.type(w, 8);
            x.type(w, 8);
            x.thing();
            calls += 3;
        }
        for (int i = 0; calls < 512; i++) {
            x.type(i % 9 == 0 ? w + 1 : w, 8);
            x.show(i & 3);
            x.fitting(0);
            x.settle();
            x.slips();
            x.differs(5);
            x.doing(3);
            x.otherwise();
            x.keep();
            x.text();
            x.run(0, 3, 2);
            x.sheet(i & 3, i % 3, 20);
            x.put(3, 24, i & 3, i % 3, 2);
            x.line(i & 3, i % 3, 2, 16);
            calls += 14;
        }
    }

    private static void weigh(Object of, Set<Object> seen) throws IllegalAccessException {
        if (of == null || of instanceof String || !seen.add(of)) {
            return;
        }
        objects++;
        Class<?> type = of.getClass();
        if (type.isArray()) {
            items += Array.getLength(of);
            for (int i = 0; i < Array.getLength(of) && !type.getComponentType().isPrimitive(); i++) {
                weigh(Array.get(of, i), seen);
            }
            return;
        }
        for (Field field : type.getDeclaredFields()) {
            if (!Modifier.isStatic(field.getModifiers())) {
                items++;
                field.setAccessible(true);
                if (!field.getType().isPrimitive()) {
                    weigh(field.get(of), seen);
                }
            }
        }
    }
}

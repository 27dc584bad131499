import java.lang.management.ManagementFactory;
import java.lang.reflect.Array;
import java.lang.reflect.Field;
import java.lang.reflect.Modifier;
import java.util.Collections;
import java.util.IdentityHashMap;
import java.util.Set;

/** What an object holds is small, and its calls make nothing: all calls of a run live in one room. */
public final class RoomTest {
    private static final int MOST_OBJECTS = 150;
    private static final int MOST_ELEMENTS = 1800;
    private static final int ROUNDS = 300;
    private static final Check CHECK = new Check();
    private static int elements = 0;

    public static void main(String[] args) throws ReflectiveOperationException {
        Set<Object> objects = Collections.newSetFromMap(new IdentityHashMap<>());
        gather(new TuningTables(), objects);
        System.out.println(objects.size() + " objects and arrays, " + elements + " fields and elements");
        CHECK.holds("few objects", objects.size() <= MOST_OBJECTS);
        CHECK.holds("few elements", elements <= MOST_ELEMENTS);

        TuningTables tables = new TuningTables();
        useAll(tables);
        long before = allocated();
        for (int round = 0; round < ROUNDS; round++) {
            useAll(tables);
        }
        long bytes = allocated() - before;
        // one object a call would be some 16 bytes in each of more than 100000 calls
        CHECK.holds("calls make no objects: " + bytes + " bytes", bytes < 100000);
        CHECK.end();
    }

    private static long allocated() {
        return ((com.sun.management.ThreadMXBean) ManagementFactory.getThreadMXBean()).getCurrentThreadAllocatedBytes();
    }

    private static void gather(Object object, Set<Object> objects) throws ReflectiveOperationException {
        if (object == null || !objects.add(object)) {
            return;
        }
        if (object.getClass().isArray()) {
            elements += Array.getLength(object);
            for (int at = 0; object instanceof Object[] array && at < array.length; at++) {
                gather(array[at], objects);
            }
            return;
        }
        for (Field field : object.getClass().getDeclaredFields()) {
            if (!Modifier.isStatic(field.getModifiers())) {
                elements++;
                field.setAccessible(true);
                if (!field.getType().isPrimitive()) {
                    gather(field.get(object), objects);
                }
            }
        }
    }

    private static void useAll(TuningTables tables) {
        String text = "9/8 5/4 4/3 3/2 5/3 15/8 2";
        for (int at = 0; at < text.length(); at++) {
            tables.sign(text.charAt(at));
        }
        tables.read();
        askAll(tables);
        tables.read();
        tables.place();
        tables.chain(24, 2, -2, 1, -1, 2, 1);
        askAll(tables);
    }

    private static void askAll(TuningTables tables) {
        tables.gaps();
        for (int step = -1; step <= tables.steps(); step++) {
            tables.exponent(step, 0);
            tables.key(step, 0);
            tables.compare(step, 1);
            tables.reduce(step);
            tables.order(step);
            tables.gap(step, 1);
            tables.degree(step, 36);
            tables.prime(step, 12);
            tables.makes(step, 12);
            tables.tempers(step);
            tables.term(step, 9);
        }
    }
}

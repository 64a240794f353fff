import java.lang.management.ManagementFactory;
import java.lang.reflect.Array;
import java.lang.reflect.Field;
import java.lang.reflect.Modifier;
import java.util.ArrayDeque;
import java.util.Collections;
import java.util.IdentityHashMap;
import java.util.Set;

/**
 * What a run makes: all its calls share one room of some 600,000 objects and 7.3 million fields and
 * elements. A new object takes a small part of it, and its calls take nothing more.
 */
public final class RoomTest {
    private static final int CALLS = 512;
    private static final int OBJECTS = 10_000;
    private static final int ELEMENTS = 100_000;
    // Less than one small object a call: so much the Java machine may make by itself meanwhile.
    private static final long SPARE_BYTES = 8 * CALLS;

    private RoomTest() {}

    public static void main(String[] args) throws IllegalAccessException {
        newObject();
        calls();
        Check.end();
    }

    private static void newObject() throws IllegalAccessException {
        Set<Object> seen = Collections.newSetFromMap(new IdentityHashMap<>());
        ArrayDeque<Object> open = new ArrayDeque<>();
        open.push(new AtlasDesk());
        long elements = 0;
        while (!open.isEmpty()) {
            Object next = open.pop();
            if (seen.add(next)) {
                elements += next.getClass().isArray() ? elements(next, open) : fields(next, open);
            }
        }
        Check.due("a new object has at most " + OBJECTS + " objects (" + seen.size() + ")", seen.size() <= OBJECTS, true);
        Check.due("and at most " + ELEMENTS + " elements (" + elements + ")", elements <= ELEMENTS, true);
    }

    private static int elements(Object array, ArrayDeque<Object> open) {
        int length = Array.getLength(array);
        boolean ofObjects = !array.getClass().getComponentType().isPrimitive();
        for (int i = 0; ofObjects && i < length; i++) {
            follow(Array.get(array, i), open);
        }
        return length;
    }

    private static int fields(Object object, ArrayDeque<Object> open) throws IllegalAccessException {
        int count = 0;
        for (Field field : object.getClass().getDeclaredFields()) {
            if (!Modifier.isStatic(field.getModifiers())) {
                count++;
                field.setAccessible(true);
                if (!field.getType().isPrimitive()) {
                    follow(field.get(object), open);
                }
            }
        }
        return count;
    }

    private static void follow(Object object, ArrayDeque<Object> open) {
        if (object != null) {
            open.push(object);
        }
    }

    private static void calls() {
        com.sun.management.ThreadMXBean threads = (com.sun.management.ThreadMXBean) ManagementFactory.getThreadMXBean();
        long self = Thread.currentThread().getId();
        // The first run loads classes, which is not the program's doing.
        run(new AtlasDesk());
        AtlasDesk desk = new AtlasDesk();
        long before = threads.getThreadAllocatedBytes(self);
        int made = run(desk);
        long bytes = threads.getThreadAllocatedBytes(self) - before;
        Check.due("bytes are counted at all", before > 0, true);
        Check.due("the calls of a run", made, CALLS);
        Check.due("the bytes that " + CALLS + " calls make (" + bytes + ")", bytes <= SPARE_BYTES, true);
    }

    private static int run(AtlasDesk desk) {
        int calls = putFeatures(desk) + 2;
        desk.region(0, 0, 1023, 1023, 2);
        desk.edition();
        for (int round = 0; calls + 12 <= CALLS; round++) {
            dearCalls(desk, round);
            calls += 12;
        }
        for (; calls < CALLS; calls++) {
            desk.octet(calls);
        }
        return calls;
    }

    /** 24 points, zigzag lines and areas with an arc. */
    private static int putFeatures(AtlasDesk desk) {
        int calls = 0;
        for (int number = 1; number <= 24; number++) {
            int kind = number % 3;
            int corners = kind == 0 ? 1 : 6;
            for (int i = 0; i < corners; i++) {
                desk.corner(30 * number + 50 * i, kind == 2 ? 200 + 40 * i * (5 - i) : 90 * number % 700 + 300 * (i % 2));
            }
            desk.feature(number, kind, number % 10, 0, 'a' + number);
            calls += corners + 1;
        }
        return calls;
    }

    private static void dearCalls(AtlasDesk desk, int round) {
        desk.drop(round % 24);
        int last = desk.edition();
        desk.extract(last - 1);
        desk.difference(last - 1, last);
        desk.differs(0, 4);
        desk.apply();
        desk.pack(1);
        desk.packed(0, 3);
        desk.take(2, 0, 0);
        desk.tile(last, 4, round % 4, round % 3);
        desk.lookUp(0, 0);
        desk.near(round, 5 * round, 4, 0);
    }
}

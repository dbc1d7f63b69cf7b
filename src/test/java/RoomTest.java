import java.lang.management.ManagementFactory;
import java.lang.reflect.Array;
import java.lang.reflect.Field;
import java.lang.reflect.Modifier;
import java.util.ArrayDeque;
import java.util.Collections;
import java.util.IdentityHashMap;
import java.util.Set;

/** All calls of a run live in one room: a new object is small, and its calls make nothing. */
public final class RoomTest {
    private static final int CALLS = 512;
    private static final int MOST_OBJECTS = 600_000 / CALLS;
    private static final int MOST_CELLS = 7_300_000 / CALLS;

    private RoomTest() {
    }

    public static void main(String[] args) throws IllegalAccessException {
        newObject();
        calls();
        Check.end();
    }

    private static void newObject() throws IllegalAccessException {
        Set<Object> seen = Collections.newSetFromMap(new IdentityHashMap<>());
        ArrayDeque<Object> open = new ArrayDeque<>();
        open.add(new GlyphLines());
        long cells = 0;
        while (!open.isEmpty()) {
            Object next = open.remove();
            if (seen.add(next)) {
                cells += next.getClass().isArray() ? elements(next, open) : fields(next, open);
            }
        }
        Check.due("a new object's objects, " + seen.size() + ", are few", seen.size() < MOST_OBJECTS, true);
        Check.due("a new object's cells, " + cells + ", are few", cells < MOST_CELLS, true);
    }

    private static int elements(Object array, ArrayDeque<Object> open) {
        int many = Array.getLength(array);
        for (int i = 0; i < many && array instanceof Object[]; i++) {
            open.add(Array.get(array, i));
        }
        return many;
    }

    private static int fields(Object object, ArrayDeque<Object> open) throws IllegalAccessException {
        int many = 0;
        for (Field field : object.getClass().getDeclaredFields()) {
            if (!Modifier.isStatic(field.getModifiers())) {
                many++;
                field.setAccessible(true);
                if (!field.getType().isPrimitive()) {
                    open.add(field.get(object));
                }
            }
        }
        return many;
    }

    private static void calls() {
        byte[] round = FontFile.simple(new int[] {0, 0, 0, 0, 60, 0, 60, 60, 0, 60, 0, 0});
        GlyphLines lines = FontFile.of(round, FontFile.composed(FontFile.part(8, 0, 1, 1, 9999))).font();
        dearCalls(lines);
        long before = made();
        for (int i = 0; i < CALLS; i++) {
            dearCalls(lines);
        }
        long perTurn = (made() - before) / CALLS;
        Check.due("calls make nothing, but " + perTurn + " bytes", perTurn < 16, true);
    }

    private static void dearCalls(GlyphLines lines) {
        lines.feed(1);
        lines.load(true);
        lines.type(1);
        lines.paint(24);
        lines.point(1, 2, 0);
        lines.measure(1, 1);
        lines.kerning(0, 1);
        lines.glyph(1);
    }

    private static long made() {
        com.sun.management.ThreadMXBean threads =
                (com.sun.management.ThreadMXBean) ManagementFactory.getThreadMXBean();
        return threads.getThreadAllocatedBytes(Thread.currentThread().getId());
    }
}

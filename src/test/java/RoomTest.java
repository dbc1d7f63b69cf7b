import java.lang.management.ManagementFactory;
import java.lang.reflect.Array;
import java.lang.reflect.Field;
import java.lang.reflect.Modifier;
import java.util.ArrayDeque;
import java.util.Collections;
import java.util.IdentityHashMap;
import java.util.Set;

/** All calls of a run live in one room: a new object is small, and so is what its calls make. */
public final class RoomTest {
    private static final int CALLS = 512;
    private static final int MOST_OBJECTS = 600_000 / CALLS;
    private static final int MOST_CELLS = 7_300_000 / CALLS;
    private static final int CALLS_A_TURN = 8;
    private static final int TURNS = 45;
    private static final int BYTES_A_CALL = 4 * MOST_CELLS;

    private RoomTest() {
    }

    public static void main(String[] args) throws IllegalAccessException {
        newObject();
        calls();
        Check.end();
    }

    private static void newObject() throws IllegalAccessException {
        Set<Object> seen = Collections.newSetFromMap(new IdentityHashMap<>());
        ArrayDeque<Object> open = new ArrayDeque<>();
        open.add(new GlyphLines());
        long cells = 0;
        while (!open.isEmpty()) {
            Object next = open.remove();
            boolean isOwn = next.getClass().isArray() || next.getClass().getName().startsWith("GlyphLines");
            if (isOwn && seen.add(next)) {
                cells += next.getClass().isArray() ? elements(next, open) : fields(next, open);
            }
        }
        Check.due("a new object's objects, " + seen.size() + ", are few", seen.size() < MOST_OBJECTS, true);
        Check.due("a new object's cells, " + cells + ", are few", cells < MOST_CELLS, true);
    }

    private static int elements(Object array, ArrayDeque<Object> open) {
        int many = Array.getLength(array);
        for (int i = 0; i < many && array instanceof Object[]; i++) {
            add(Array.get(array, i), open);
        }
        return many;
    }

    private static int fields(Object object, ArrayDeque<Object> open) throws IllegalAccessException {
        int many = 0;
        for (Field field : object.getClass().getDeclaredFields()) {
            if (!Modifier.isStatic(field.getModifiers())) {
                many++;
                field.setAccessible(true);
                if (!field.getType().isPrimitive()) {
                    add(field.get(object), open);
                }
            }
        }
        return many;
    }

    private static void add(Object object, ArrayDeque<Object> open) {
        if (object != null) {
            open.add(object);
        }
    }

    private static void calls() {
        byte[] round = FontFile.simple(new int[] {0, 0, 0, 0, 60, 0, 60, 60, 0, 60, 0, 0});
        FontFile font = FontFile.of(round, FontFile.composed(FontFile.part(8, 0, 1, 1, 9999)));
        dearCalls(font.font(), TURNS);
        GlyphLines lines = font.font();
        long before = made();
        dearCalls(lines, TURNS);
        long perCall = (made() - before) / (TURNS * CALLS_A_TURN);
        Check.due("a call makes little, but " + perCall + " bytes", perCall < BYTES_A_CALL, true);
    }

    private static void dearCalls(GlyphLines lines, int turns) {
        for (int i = 0; i < turns; i++) {
            lines.feed(1);
            lines.load(true);
            lines.type(1);
            lines.paint(24);
            lines.point(1, 2, 0);
            lines.measure(1, 1);
            lines.kerning(0, 1);
            lines.glyph(1);
        }
    }

    private static long made() {
        com.sun.management.ThreadMXBean threads =
                (com.sun.management.ThreadMXBean) ManagementFactory.getThreadMXBean();
        return threads.getThreadAllocatedBytes(Thread.currentThread().getId());
    }
}

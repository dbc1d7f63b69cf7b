import java.lang.reflect.Constructor;
import java.lang.reflect.Field;
import java.lang.reflect.Method;
import java.lang.reflect.Modifier;
import java.util.ArrayList;
import java.util.List;
import java.util.Set;
import java.util.TreeSet;

/** The public face: its constants, constructor and methods, and nothing else that can be seen. */
public final class FaceTest {
    private FaceTest() {
    }

    public static void main(String[] args) {
        constants();
        Check.due("public and final", GlyphLines.class.getModifiers(), Modifier.PUBLIC | Modifier.FINAL);
        seen();
        hidden();
        Check.end();
    }

    private static void constants() {
        Check.due("NONE", GlyphLines.NONE, -1);
        Check.due("FILE", GlyphLines.FILE, -1);
        Check.due("SUMS", GlyphLines.SUMS, -2);
        Check.due("TABLES", GlyphLines.TABLES, -3);
        Check.due("FORMS", GlyphLines.FORMS, -4);
        Check.due("GLYPHS", GlyphLines.GLYPHS, -5);
    }

    private static void seen() {
        List<String> due = new ArrayList<>(List.of(
                "public static final int NONE", "public static final int FILE", "public static final int SUMS",
                "public static final int TABLES", "public static final int FORMS",
                "public static final int GLYPHS", "public GlyphLines()",
                "public int feed(int)",
                "public int put(int,int) throws IndexOutOfBoundsException,IllegalArgumentException",
                "public int at(int)",
                "public int cut(int) throws IllegalArgumentException",
                "public int load(boolean)",
                "public int glyph(int) throws IllegalStateException,IllegalArgumentException",
                "public int measure(int,int) throws IllegalStateException,IndexOutOfBoundsException",
                "public int point(int,int,int) throws IllegalStateException,IndexOutOfBoundsException",
                "public int kerning(int,int) throws IllegalStateException,IndexOutOfBoundsException",
                "public boolean type(int)", "public int wipe()",
                "public int paint(int) throws IllegalStateException,IllegalArgumentException",
                "public long row(int) throws IndexOutOfBoundsException"));
        for (String member : visibleMembers()) {
            Check.due(member + " is in the document", due.remove(member), true);
        }
        for (String member : due) {
            Check.due(member + " is in the class", false, true);
        }
    }

    private static List<String> visibleMembers() {
        List<String> members = new ArrayList<>();
        for (Field field : GlyphLines.class.getDeclaredFields()) {
            add(members, field.getModifiers(), field.toString());
        }
        for (Constructor<?> constructor : GlyphLines.class.getDeclaredConstructors()) {
            add(members, constructor.getModifiers(), constructor.toString());
        }
        for (Method method : GlyphLines.class.getDeclaredMethods()) {
            add(members, method.getModifiers(), method.toString());
        }
        return members;
    }

    private static void add(List<String> members, int modifiers, String told) {
        if (!Modifier.isPrivate(modifiers)) {
            members.add(told.replace("GlyphLines.", "").replace("java.lang.", ""));
        }
    }

    private static void hidden() {
        Set<String> open = new TreeSet<>();
        for (Method method : GlyphLines.class.getMethods()) {
            open.add(method.getName());
        }
        for (Method method : GlyphLines.class.getDeclaredMethods()) {
            boolean bearsAnOpenName = Modifier.isPrivate(method.getModifiers()) && open.contains(method.getName());
            Check.due(method.getName() + " is private, with the name of a public one", bearsAnOpenName, false);
        }
        for (Class<?> inner : GlyphLines.class.getDeclaredClasses()) {
            int modifiers = inner.getModifiers();
            boolean allowed = !Modifier.isPublic(modifiers) && !Modifier.isProtected(modifiers)
                    && Modifier.isStatic(modifiers);
            Check.due(inner.getName() + " is private or package-visible, and static", allowed, true);
        }
    }
}

import java.io.IOException;
import java.lang.reflect.Constructor;
import java.lang.reflect.Executable;
import java.lang.reflect.Field;
import java.lang.reflect.Method;
import java.lang.reflect.Modifier;
import java.nio.charset.StandardCharsets;
import java.nio.file.Files;
import java.nio.file.Path;
import java.util.ArrayList;
import java.util.List;
import java.util.Set;
import java.util.regex.Matcher;
import java.util.regex.Pattern;

/** What of ../shared/LANGUAGE.md can be seen from the class and its text alone; FaceTest has rule 1. */
public final class LanguageTest {
    private static final Path SOURCE = Path.of("src/main/java/GlyphLines.java");
    private static final Set<String> IMPORTS = Set.of("java.util.Arrays", "java.util.ArrayList",
            "java.util.List", "java.util.Iterator");
    private static final Set<String> LIBRARY = Set.of("Math.max", "Math.min", "Math.abs", "Math.floorDiv",
            "Integer.bitCount", "System.arraycopy", "Arrays.fill");
    private static final Set<String> THROWN = Set.of("IllegalStateException", "IllegalArgumentException",
            "IndexOutOfBoundsException");
    private static final Set<Class<?>> CONSTANTS = Set.of(int.class, long.class, boolean.class, char.class,
            String.class, int[].class, long[].class, char[].class, byte[].class);
    private static final int MOST_CLASSES = 12;
    private static final int MOST_FIELDS = 20;
    private static final int MOST_PARAMETERS = 7;
    private static final int MOST_LINES = 60;

    private LanguageTest() {
    }

    public static void main(String[] args) throws IOException {
        String text = Files.readString(SOURCE, StandardCharsets.US_ASCII);
        imports(text);
        words(text);
        library(text);
        thrown(text);
        lengths(text);
        List<Class<?>> classes = new ArrayList<>(List.of(GlyphLines.class.getDeclaredClasses()));
        classes.add(GlyphLines.class);
        Check.due(classes.size() + " classes", classes.size() <= MOST_CLASSES, true);
        for (Class<?> one : classes) {
            fields(one);
            parameters(one);
        }
        Check.end();
    }

    private static void none(String what, String text, String pattern) {
        Matcher matcher = Pattern.compile(pattern).matcher(text);
        if (matcher.find()) {
            Check.due(what + ": " + matcher.group(), false, true);
        }
    }

    /** Each first group that is found is one of these. */
    private static void onlyThese(String text, String pattern, Set<String> allowed) {
        Matcher matcher = Pattern.compile(pattern).matcher(text);
        while (matcher.find()) {
            Check.due(matcher.group(1) + " is allowed", allowed.contains(matcher.group(1)), true);
        }
    }

    private static void imports(String text) {
        none("a package", text, "(?m)^package\\b");
        onlyThese(text, "(?m)^import (?:static )?([\\w.*]+);", IMPORTS);
        none("a name in full", text, "(?m)^(?!import).*\\bjavax?\\.\\w+");
    }

    private static void words(String text) {
        none("rule 2", text, "->|::");
        none("rules 3, 6, 13", text, "\\b(finally|synchronized|assert|volatile|native|catch|var|double|float)\\b");
        none("rule 5", text, "(?m)^ *static *\\{");
        none("rule 6", text, "\\b(equals|hashCode|toString)\\(");
    }

    private static void library(String text) {
        onlyThese(text, "\\b((?:Math|Integer|Long|System|Arrays|String|Character|Short|Byte)\\.\\w+)", LIBRARY);
    }

    private static void thrown(String text) {
        onlyThese(text, "\\bthrow (?!new \\w+\\((?:\"[^\"]*\")?\\);)(.*)", Set.of());
        onlyThese(text, "\\bthrow new (\\w+)", THROWN);
    }

    /** A method begins behind 4 or 8 blanks, and ends with a brace behind as many. */
    private static void lengths(String text) {
        Matcher matcher = Pattern.compile("(?m)^( {4}| {8})(?! |.*\\bclass\\b).*\\) (?:throws .*)?\\{$").matcher(text);
        int methods = 0;
        while (matcher.find()) {
            methods++;
            int end = text.indexOf("\n" + matcher.group(1) + "}\n", matcher.start());
            long lines = text.substring(matcher.start(), Math.max(end, matcher.start())).lines().count() + 1;
            Check.due(matcher.group().trim() + " has an end", end >= 0, true);
            Check.due(matcher.group().trim() + " has " + lines + " lines", lines <= MOST_LINES, true);
        }
        Check.due("methods are found", methods > GlyphLines.class.getDeclaredMethods().length, true);
    }

    private static void fields(Class<?> one) {
        int own = 0;
        for (Field field : one.getDeclaredFields()) {
            if (Modifier.isStatic(field.getModifiers())) {
                Check.due(field + " is final", Modifier.isFinal(field.getModifiers()), true);
                Check.due(field + " is a constant", CONSTANTS.contains(field.getType()), true);
            } else {
                own++;
            }
        }
        Check.due(one.getName() + " has " + own + " fields", own <= MOST_FIELDS, true);
    }

    private static void parameters(Class<?> one) {
        List<Executable> all = new ArrayList<>();
        for (Method method : one.getDeclaredMethods()) {
            all.add(method);
        }
        for (Constructor<?> constructor : one.getDeclaredConstructors()) {
            all.add(constructor);
        }
        for (Executable each : all) {
            Check.due(each + " has few parameters", each.getParameterCount() <= MOST_PARAMETERS, true);
        }
    }
}

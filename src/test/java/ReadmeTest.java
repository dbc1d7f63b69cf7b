import java.io.ByteArrayOutputStream;
import java.io.IOException;
import java.io.PrintStream;
import java.lang.reflect.Field;
import java.lang.reflect.Method;
import java.lang.reflect.Modifier;
import java.nio.file.Files;
import java.nio.file.Path;
import java.util.ArrayList;
import java.util.List;
import java.util.regex.Matcher;
import java.util.regex.Pattern;
import java.util.stream.Collectors;
import java.util.stream.Stream;

/** README.md and TESTS.md tell what there is; it is run from the project's directory, as .ci/run does. */
public final class ReadmeTest {
    private static final Path TESTS = Path.of("src/test/java");

    private ReadmeTest() {
    }

    public static void main(String[] args) throws IOException {
        String readme = Files.readString(Path.of("README.md"));
        exampleIsShown(readme);
        exampleIsAnswered(readme);
        faceIsTold(readme);
        testsAreTold(readme);
        testsOfSentences(Files.readString(Path.of("TESTS.md")));
        Check.end();
    }

    private static List<String> blocks(String readme, String language) {
        List<String> blocks = new ArrayList<>();
        Matcher matcher = Pattern.compile("```" + language + "\n(.*?)```", Pattern.DOTALL).matcher(readme);
        while (matcher.find()) {
            blocks.add(matcher.group(1));
        }
        return blocks;
    }

    private static void exampleIsShown(String readme) throws IOException {
        List<String> shown = blocks(readme, "java");
        Check.due("examples in README.md", shown.size(), 1);
        String example = Files.readString(TESTS.resolve("Example.java"));
        for (String block : shown) {
            Check.due("the example is word for word Example.java's", example.contains(block.indent(8)), true);
        }
    }

    private static void exampleIsAnswered(String readme) {
        PrintStream before = System.out;
        ByteArrayOutputStream printed = new ByteArrayOutputStream();
        System.setOut(new PrintStream(printed));
        Example.main(new String[0]);
        System.out.flush();
        System.setOut(before);
        boolean asTold = blocks(readme, "text").equals(List.of(printed.toString().replace("\r", "")));
        Check.due("the example prints what README.md says", asTold, true);
    }

    private static void faceIsTold(String readme) {
        for (Method method : GlyphLines.class.getDeclaredMethods()) {
            if (Modifier.isPublic(method.getModifiers())) {
                isTold(readme, "| `" + method.getName() + "(");
            }
        }
        for (Field field : GlyphLines.class.getFields()) {
            isTold(readme, "`" + field.getName() + "`");
        }
    }

    private static void isTold(String text, String what) {
        Check.due(what + " is told", text.contains(what), true);
    }

    private static List<String> testNames() throws IOException {
        try (Stream<Path> files = Files.list(TESTS)) {
            return files.map(file -> file.getFileName().toString().replace(".java", ""))
                    .sorted().collect(Collectors.toList());
        }
    }

    private static void testsAreTold(String readme) throws IOException {
        for (String name : testNames()) {
            Check.due(name + " is told in README.md", readme.contains(name), true);
        }
    }

    /** Names of methods stand behind their class, or behind others of it: `A.b`, `c`; `D.e`. */
    private static void testsOfSentences(String text) throws IOException {
        List<String> names = testNames();
        Matcher matcher = Pattern.compile("`(?:([A-Z]\\w*)\\.?)?([a-z]\\w*)?`").matcher(text);
        String source = "";
        while (matcher.find()) {
            String type = matcher.group(1);
            if (type != null) {
                Check.due(type + " is there", names.contains(type), true);
                source = names.contains(type) ? Files.readString(TESTS.resolve(type + ".java")) : "";
            }
            String method = matcher.group(2);
            if (method != null) {
                Check.due(method + " is there", source.contains("void " + method + "("), true);
            }
        }
    }
}

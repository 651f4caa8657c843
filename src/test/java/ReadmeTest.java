import java.io.ByteArrayOutputStream;
import java.io.IOException;
import java.io.PrintStream;
import java.lang.reflect.Method;
import java.net.URL;
import java.net.URLClassLoader;
import java.nio.charset.StandardCharsets;
import java.nio.file.Files;
import java.nio.file.Path;
import java.util.ArrayList;
import java.util.List;
import java.util.TreeSet;
import java.util.regex.Matcher;
import java.util.regex.Pattern;
import java.util.stream.Stream;
import javax.tools.ToolProvider;

/** README.md: its example holds as it is written, and it tells all calls and tests. Runs in the project's folder. */
public final class ReadmeTest {
    private static final Due DUE = new Due("ReadmeTest");
    private static final Path SOURCE = Path.of("src", "main", "java", "RegisterFleet.java");
    private static final Path TESTS = Path.of("src", "test", "java");

    private ReadmeTest() {
    }

    public static void main(String[] args) throws IOException, ReflectiveOperationException {
        String readme = Files.readString(Path.of("README.md"));
        theCallsAreTold(readme);
        theTestsAreTold(readme);
        theExampleHolds(readme);
        DUE.end();
    }

    private static List<String> found(String pattern, String text) {
        List<String> all = new ArrayList<>();
        Matcher each = Pattern.compile(pattern, Pattern.MULTILINE).matcher(text);
        while (each.find()) {
            all.add(each.group(1));
        }
        return all;
    }

    private static void theCallsAreTold(String readme) throws IOException {
        List<String> open = found("^    public ((?:\\w+ )?\\w+\\(.*\\)) \\{$", Files.readString(SOURCE));
        List<String> told = found("^\\| `((?:\\w+ )?\\w+\\(.*?\\))` \\|", readme);
        DUE.same("the constructor and the methods", open.size(), 19);
        DUE.yes("told are " + told + ", open are " + open, told.equals(open));
    }

    private static void theTestsAreTold(String readme) throws IOException {
        TreeSet<String> there = new TreeSet<>();
        try (Stream<Path> files = Files.list(TESTS)) {
            files.forEach(each -> there.add(each.getFileName().toString()));
        }
        there.removeIf(each -> !each.endsWith("Test.java"));
        TreeSet<String> told = new TreeSet<>();
        for (String each : found("^\\| `(\\w+Test)` \\|", readme)) {
            told.add(each + ".java");
        }
        DUE.yes("told are " + told + ", there are " + there, told.equals(there));
    }

    private static void theExampleHolds(String readme) throws IOException, ReflectiveOperationException {
        List<String> examples = found("^```java\n((?:.*\n)*?)```$", readme);
        DUE.same("examples", examples.size(), 1);
        List<String> want = found("// prints (.*)$", examples.get(0));
        List<String> got = printed(examples.get(0));
        DUE.yes("the example tells what it prints", !want.isEmpty());
        DUE.yes("the example prints " + got + ", told is " + want, got.equals(want));
    }

    private static List<String> printed(String example) throws IOException, ReflectiveOperationException {
        Path folder = Files.createTempDirectory("example");
        Path file = folder.resolve("Example.java");
        Path compiled = folder.resolve("Example.class");
        Files.writeString(file, example);
        int faults = ToolProvider.getSystemJavaCompiler().run(null, null, null, "-Xlint:all", "-Werror",
            "-cp", System.getProperty("java.class.path"), "-d", folder.toString(), file.toString());
        DUE.same("faults that the compiler finds in the example", faults, 0);
        List<String> lines = faults == 0 ? runMain(folder) : List.of();
        Files.deleteIfExists(compiled);
        Files.delete(file);
        Files.delete(folder);
        return lines;
    }

    private static List<String> runMain(Path folder) throws IOException, ReflectiveOperationException {
        ByteArrayOutputStream bytes = new ByteArrayOutputStream();
        PrintStream screen = System.out;
        try (URLClassLoader loader = new URLClassLoader(new URL[] {folder.toUri().toURL()});
             PrintStream caught = new PrintStream(bytes, true, StandardCharsets.UTF_8)) {
            Method main = loader.loadClass("Example").getMethod("main", String[].class);
            System.setOut(caught);
            main.invoke(null, (Object) new String[0]);
        } finally {
            System.setOut(screen);
        }
        return bytes.toString(StandardCharsets.UTF_8).lines().toList();
    }
}

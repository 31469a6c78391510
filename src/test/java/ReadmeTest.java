import java.io.ByteArrayOutputStream;
import java.io.IOException;
import java.io.PrintStream;
import java.lang.reflect.Method;
import java.lang.reflect.Modifier;
import java.net.URL;
import java.net.URLClassLoader;
import java.nio.file.Files;
import java.nio.file.Path;
import java.util.TreeSet;
import java.util.regex.Matcher;
import java.util.regex.Pattern;
import java.util.stream.Stream;
import javax.tools.ToolProvider;

/** README.md: its example prints what it says, and its tables have every call and every test, and no other one. */
public final class ReadmeTest {
    private static final Path TESTS = Path.of("src/test/java");

    private ReadmeTest() {
    }

    public static void main(String[] args) throws IOException, ReflectiveOperationException {
        String text = Files.readString(Path.of("README.md"));
        Check.same("the example prints", block(text, "text"), printed(block(text, "java")));
        Check.same("the calls", callsOfClass(), found(text, "`([a-z][A-Za-z]*)`(?=[^|\n]*\\|\n)"));
        Check.same("the tests", testsOfProject(), found(text, "(?m)^\\| ([A-Z][A-Za-z]*Test) \\|"));
        Check.finish();
    }

    private static String block(String text, String kind) {
        Matcher matcher = Pattern.compile("(?s)```" + kind + "\n(.*?)```").matcher(text);
        return matcher.find() ? matcher.group(1) : "no block of " + kind;
    }

    private static TreeSet<String> found(String text, String form) {
        TreeSet<String> found = new TreeSet<>();
        Matcher matcher = Pattern.compile(form).matcher(text);
        while (matcher.find()) {
            found.add(matcher.group(1));
        }
        return found;
    }

    private static TreeSet<String> callsOfClass() {
        TreeSet<String> calls = new TreeSet<>();
        for (Method one : ButtonRegistry.class.getDeclaredMethods()) {
            if (Modifier.isPublic(one.getModifiers())) {
                calls.add(one.getName());
            }
        }
        return calls;
    }

    private static TreeSet<String> testsOfProject() throws IOException {
        TreeSet<String> tests = new TreeSet<>();
        try (Stream<Path> files = Files.list(TESTS)) {
            files.map(file -> file.getFileName().toString()).filter(name -> name.endsWith("Test.java"))
                    .forEach(name -> tests.add(name.replace(".java", "")));
        }
        return tests;
    }

    private static String printed(String source) throws IOException, ReflectiveOperationException {
        Path place = Files.createTempDirectory("readme");
        Path file = place.resolve("Example.java");
        Path compiled = place.resolve("Example.class");
        PrintStream screen = System.out;
        ByteArrayOutputStream printed = new ByteArrayOutputStream();
        try (URLClassLoader loader = new URLClassLoader(new URL[] {place.toUri().toURL()})) {
            Files.writeString(file, source);
            int fault = ToolProvider.getSystemJavaCompiler().run(null, null, null, "-cp",
                    System.getProperty("java.class.path"), "-d", place.toString(), file.toString());
            Check.same("the example compiles", 0, fault);
            System.setOut(new PrintStream(printed, true));
            loader.loadClass("Example").getMethod("main", String[].class).invoke(null, (Object) new String[0]);
        } finally {
            System.setOut(screen);
            Files.deleteIfExists(file);
            Files.deleteIfExists(compiled);
            Files.deleteIfExists(place);
        }
        return printed.toString().replace(System.lineSeparator(), "\n");
    }
}

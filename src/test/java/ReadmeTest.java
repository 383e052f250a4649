import java.io.ByteArrayOutputStream;
import java.io.IOException;
import java.io.PrintStream;
import java.lang.reflect.Method;
import java.lang.reflect.Modifier;
import java.net.URL;
import java.net.URLClassLoader;
import java.nio.charset.StandardCharsets;
import java.nio.file.Files;
import java.nio.file.Path;
import java.util.List;
import java.util.stream.Collectors;
import java.util.stream.Stream;
import javax.tools.ToolProvider;

/** README.md is as the class and the tests are: its example runs, and it names every call and every test. */
public final class ReadmeTest {
    private static final String FENCE = "```";

    public static void main(String[] args) throws Exception {
        String text = Files.readString(Path.of("README.md"), StandardCharsets.UTF_8);
        Path place = Files.createTempDirectory("readme");
        try {
            Check.same("the example prints", printed(text), ran(example(text), place));
        } finally {
            remove(place);
        }
        namesEveryCall(text);
        namesEveryTest(text);
        Check.finish();
    }

    private static String between(String text, String from, String to) {
        int start = text.indexOf(from);
        int end = start < 0 ? -1 : text.indexOf(to, start + from.length());
        return end < 0 ? "" : text.substring(start + from.length(), end);
    }

    private static String example(String text) {
        return between(text, FENCE + "java\n", FENCE);
    }

    private static String printed(String text) {
        return between(text, "This prints:\n\n" + FENCE + "\n", FENCE);
    }

    private static String ran(String example, Path place) throws Exception {
        Path file = place.resolve("Example.java");
        Files.writeString(file, "public final class Example { public static void main(String[] args) {\n" + example + "} }\n");
        int failed = ToolProvider.getSystemJavaCompiler().run(null, null, null, "-cp",
            System.getProperty("java.class.path"), "-d", place.toString(), file.toString());
        if (failed != 0) {
            return "it does not compile";
        }
        PrintStream before = System.out;
        ByteArrayOutputStream taken = new ByteArrayOutputStream();
        try (URLClassLoader loader = new URLClassLoader(new URL[] {place.toUri().toURL()})) {
            System.setOut(new PrintStream(taken, true, StandardCharsets.ISO_8859_1));
            loader.loadClass("Example").getMethod("main", String[].class).invoke(null, (Object) new String[0]);
        } finally {
            System.setOut(before);
        }
        return taken.toString(StandardCharsets.ISO_8859_1).replace(System.lineSeparator(), "\n");
    }

    private static void remove(Path place) throws IOException {
        List<Path> files;
        try (Stream<Path> found = Files.list(place)) {
            files = found.collect(Collectors.toList());
        }
        for (Path file : files) {
            Files.delete(file);
        }
        Files.delete(place);
    }

    private static void namesEveryCall(String text) {
        for (Method m : IndexSort.class.getDeclaredMethods()) {
            if (Modifier.isPublic(m.getModifiers())) {
                named(text, "| `" + m.getName() + "(");
            }
        }
    }

    private static void namesEveryTest(String text) throws IOException {
        try (Stream<Path> files = Files.list(Path.of("src/test/java"))) {
            for (Path file : files.sorted().collect(Collectors.toList())) {
                String name = file.getFileName().toString().replace(".java", "");
                // Of the fifteen for the promises the first and the last stand for all.
                if (!name.matches("Promise(0[2-9]|1[0-4]).*")) {
                    named(text, "`" + name);
                }
            }
        }
    }

    private static void named(String text, String name) {
        Check.same("README.md has " + name, "true", Boolean.toString(text.contains(name)));
    }
}

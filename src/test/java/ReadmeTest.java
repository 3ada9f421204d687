import java.io.ByteArrayOutputStream;
import java.io.IOException;
import java.io.PrintStream;
import java.lang.reflect.Method;
import java.lang.reflect.Modifier;
import java.net.URL;
import java.net.URLClassLoader;
import java.nio.charset.StandardCharsets;
import java.nio.file.Files;
import java.nio.file.Path;
import java.util.ArrayList;
import java.util.Comparator;
import java.util.List;
import java.util.stream.Stream;
import javax.tools.ToolProvider;

/** README.md: its example answers as its comments say, and it names each call and each test. */
public final class ReadmeTest {
    private static final String INDENT = "    ";

    public static void main(String[] args) throws IOException, ReflectiveOperationException {
        List<String> lines = Files.readAllLines(Path.of("README.md"));
        namesEachCall(lines);
        namesEachTest(lines);
        answersAsItSays(example(lines));
        Check.finish();
    }

    private static void namesEachCall(List<String> lines) {
        String tables = String.join("\n", lines.stream().filter(line -> line.startsWith("| `")).toList());
        for (Method m : Nestedfare.class.getDeclaredMethods()) {
            if (Modifier.isPublic(m.getModifiers())) {
                Check.same("that " + m.getName() + " is told", String.valueOf(tables.contains("`" + m.getName() + "(")), "true");
            }
        }
    }

    private static void namesEachTest(List<String> lines) throws IOException {
        String text = String.join("\n", lines);
        try (Stream<Path> files = Files.list(Path.of("src/test/java"))) {
            for (String name : files.map(file -> file.getFileName().toString()).filter(name -> name.endsWith("Test.java")).toList()) {
                Check.same("that " + name + " is told", String.valueOf(text.contains("`" + name.replace(".java", "") + "`:")), "true");
            }
        }
    }

    private static List<String> example(List<String> lines) {
        List<String> code = new ArrayList<>();
        for (String line : lines) {
            if (line.startsWith(INDENT + "public final class Example") || !code.isEmpty()) {
                if (!line.startsWith(INDENT)) {
                    break;
                }
                code.add(line);
            }
        }
        return code;
    }

    private static void answersAsItSays(List<String> code) throws IOException, ReflectiveOperationException {
        List<String> due = code.stream().filter(line -> line.contains("println"))
                .map(line -> line.replaceAll(".*// ", "")).toList();
        Check.same("that the example prints", String.valueOf(due.size() > 10), "true");
        Path directory = Files.createTempDirectory("readme");
        try {
            Path file = Files.write(directory.resolve("Example.java"), code);
            String classes = System.getProperty("java.class.path");
            int failed = ToolProvider.getSystemJavaCompiler().run(null, null, null, "-cp", classes, "-d", directory.toString(), file.toString());
            Check.same("compiling the example", failed, 0);
            if (failed == 0) {
                Check.same("the example", printed(directory).toString(), due.toString());
            }
        } finally {
            remove(directory);
        }
    }

    private static List<String> printed(Path directory) throws IOException, ReflectiveOperationException {
        ByteArrayOutputStream bytes = new ByteArrayOutputStream();
        PrintStream before = System.out;
        try (URLClassLoader loader = new URLClassLoader(new URL[] {directory.toUri().toURL()})) {
            System.setOut(new PrintStream(bytes, true, StandardCharsets.UTF_8));
            loader.loadClass("Example").getMethod("main", String[].class).invoke(null, (Object) new String[0]);
        } finally {
            System.setOut(before);
        }
        return bytes.toString(StandardCharsets.UTF_8).lines().toList();
    }

    private static void remove(Path directory) throws IOException {
        try (Stream<Path> all = Files.walk(directory)) {
            for (Path path : all.sorted(Comparator.reverseOrder()).toList()) {
                Files.delete(path);
            }
        }
    }
}

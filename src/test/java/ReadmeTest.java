import java.io.ByteArrayOutputStream;
import java.io.IOException;
import java.io.PrintStream;
import java.lang.reflect.Method;
import java.lang.reflect.Modifier;
import java.net.URL;
import java.net.URLClassLoader;
import java.nio.file.Files;
import java.nio.file.Path;
import java.util.ArrayList;
import java.util.List;
import java.util.regex.Matcher;
import java.util.regex.Pattern;
import javax.tools.ToolProvider;

/** README.md says how to use the class: its example prints what stands behind it, and its lists name each call. */
public final class ReadmeTest {
    private static final Path README = Path.of("README.md");
    private static final Pattern EXAMPLE = Pattern.compile("```java\n(.*?)```", Pattern.DOTALL);
    /** What is printed ends at a colon: the rest is an explanation. */
    private static final Pattern PRINTED = Pattern.compile("// prints ([^:\n]*)");

    private static String example(String readme) {
        Matcher matcher = EXAMPLE.matcher(readme);
        return matcher.find() ? matcher.group(1) : "";
    }

    private static List<String> due(String example) {
        List<String> due = new ArrayList<>();
        Matcher matcher = PRINTED.matcher(example);
        while (matcher.find()) {
            due.add(matcher.group(1).strip());
        }
        return due;
    }

    private static List<String> printed(String example) throws IOException, ReflectiveOperationException {
        Path directory = Files.createTempDirectory("readme");
        Path source = directory.resolve("Example.java");
        try {
            Files.writeString(source, example);
            int failed = ToolProvider.getSystemJavaCompiler().run(null, null, null,
                    "-cp", System.getProperty("java.class.path"), "-d", directory.toString(), source.toString());
            return failed == 0 ? run(directory) : List.of("javac refuses it");
        } finally {
            Files.deleteIfExists(source);
            Files.deleteIfExists(directory.resolve("Example.class"));
            Files.deleteIfExists(directory);
        }
    }

    private static List<String> run(Path directory) throws IOException, ReflectiveOperationException {
        PrintStream console = System.out;
        ByteArrayOutputStream bytes = new ByteArrayOutputStream();
        try (URLClassLoader loader = new URLClassLoader(new URL[] {directory.toUri().toURL()})) {
            System.setOut(new PrintStream(bytes, true));
            loader.loadClass("Example").getMethod("main", String[].class).invoke(null, (Object) new String[0]);
        } finally {
            System.setOut(console);
        }
        return bytes.toString().lines().toList();
    }

    public static void main(String[] args) throws IOException, ReflectiveOperationException {
        int wrong = 0;
        String readme = Files.readString(README);
        String example = example(readme);
        List<String> due = due(example);
        List<String> printed = printed(example);
        if (due.isEmpty() || !printed.equals(due)) {
            wrong++;
            System.out.println("the example prints " + printed + ", it says " + due);
        }
        for (Method method : KnotRack.class.getDeclaredMethods()) {
            if (Modifier.isPublic(method.getModifiers()) && !readme.contains("`" + method.getName() + "`")) {
                wrong++;
                System.out.println("no list names " + method.getName());
            }
        }
        System.out.println(wrong == 0 ? "README.md says what holds" : wrong + " faults in README.md");
        if (wrong != 0) {
            System.exit(1);
        }
    }
}

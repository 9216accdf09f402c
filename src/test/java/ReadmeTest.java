import java.io.ByteArrayOutputStream;
import java.io.IOException;
import java.io.PrintStream;
import java.lang.reflect.Field;
import java.lang.reflect.Method;
import java.lang.reflect.Modifier;
import java.net.URL;
import java.net.URLClassLoader;
import java.nio.file.Files;
import java.nio.file.Path;
import java.util.Comparator;
import java.util.stream.Stream;
import javax.tools.ToolProvider;

/** The example of README.md compiles and prints what stands there, and the page names all calls and constants. */
public final class ReadmeTest {
    private static String page;

    public static void main(String[] args) throws IOException, ReflectiveOperationException {
        page = Files.readString(Path.of("README.md"));
        names();
        example();
        Check.finish();
    }

    private static void names() throws ReflectiveOperationException {
        for (Method m : DynamicLogicProver.class.getDeclaredMethods()) {
            if (Modifier.isPublic(m.getModifiers())) {
                Check.isTrue("the page names " + m.getName(), page.contains("`" + m.getName() + "`"));
            }
        }
        for (Field f : DynamicLogicProver.class.getDeclaredFields()) {
            if (Modifier.isPublic(f.getModifiers())) {
                String value = f.getType() == long.class ? "`Long.MIN_VALUE`" : String.valueOf(f.get(null));
                Check.isTrue("the page names " + f.getName(), page.contains("| " + value + " | `" + f.getName() + "` |"));
            }
        }
    }

    /** What stands between a line of three backquotes with a name and the next one without. */
    private static String block(String name) {
        int start = page.indexOf("```" + name + "\n");
        int end = page.indexOf("\n```\n", start);
        Check.isTrue("the page has a block of " + name, start >= 0 && end > start);
        return start >= 0 && end > start ? page.substring(start + name.length() + 4, end + 1) : "";
    }

    private static void example() throws IOException, ReflectiveOperationException {
        Path place = Files.createTempDirectory("readme");
        Path source = place.resolve("Example.java");
        Files.writeString(source, block("java"));
        int failed = ToolProvider.getSystemJavaCompiler().run(null, System.out, System.out, "-Xlint:all", "-Werror",
                "-cp", System.getProperty("java.class.path"), "-d", place.toString(), source.toString());
        Check.due("javac", failed, 0);
        if (failed == 0) {
            Check.dueText("the example", printed(place), block("text"));
        }
        try (Stream<Path> files = Files.walk(place)) {
            for (Path file : files.sorted(Comparator.reverseOrder()).toList()) {
                Files.delete(file);
            }
        }
    }

    private static String printed(Path place) throws IOException, ReflectiveOperationException {
        PrintStream before = System.out;
        ByteArrayOutputStream all = new ByteArrayOutputStream();
        try (URLClassLoader loader = new URLClassLoader(new URL[] {place.toUri().toURL()}, ReadmeTest.class.getClassLoader());
                PrintStream out = new PrintStream(all)) {
            System.setOut(out);
            loader.loadClass("Example").getMethod("main", String[].class).invoke(null, (Object) new String[0]);
        } finally {
            System.setOut(before);
        }
        return all.toString().replace(System.lineSeparator(), "\n");
    }
}

import java.io.ByteArrayOutputStream;
import java.io.IOException;
import java.io.PrintStream;
import java.lang.reflect.Method;
import java.lang.reflect.Modifier;
import java.net.URL;
import java.net.URLClassLoader;
import java.nio.charset.StandardCharsets;
import java.nio.file.Files;
import java.nio.file.Path;
import java.util.Arrays;
import javax.tools.ToolProvider;

/** README.md: its program compiles and prints what it says, and its table has every call with what it throws. */
public final class ReadmeTest {
    public static void main(String[] args) throws Exception {
        String place = System.getProperty("readme");
        Desk.due("the property readme is set", true, () -> place != null);
        if (place != null) {
            String readme = Files.readString(Path.of(place));
            example(readme);
            table(readme);
        }
        Desk.end("ReadmeTest");
    }

    private static void example(String readme) throws Exception {
        Path folder = Files.createTempDirectory("readme");
        Path source = folder.resolve("Example.java");
        Files.writeString(source, block(readme, "java"));
        String path = System.getProperty("java.class.path");
        int end = ToolProvider.getSystemJavaCompiler().run(null, null, null, "-cp", path, "-d", folder.toString(), source.toString());
        Desk.due("the program compiles", 0, () -> end);
        if (end == 0) {
            String printed = printed(folder);
            Desk.due("the program prints", block(readme, "text"), () -> printed);
        }
        for (String name : new String[] {"Example.java", "Example.class"}) {
            Files.deleteIfExists(folder.resolve(name));
        }
        Files.delete(folder);
    }

    /** The first block of the kind between two rows of backticks. */
    private static String block(String readme, String kind) {
        String start = "```" + kind + "\n";
        int from = readme.indexOf(start) + start.length();
        return readme.substring(from, readme.indexOf("```", from));
    }

    private static String printed(Path folder) throws IOException, ReflectiveOperationException {
        PrintStream out = System.out;
        ByteArrayOutputStream caught = new ByteArrayOutputStream();
        try (URLClassLoader loader = new URLClassLoader(new URL[] {folder.toUri().toURL()})) {
            System.setOut(new PrintStream(caught, true, StandardCharsets.UTF_8));
            loader.loadClass("Example").getMethod("main", String[].class).invoke(null, (Object) new String[0]);
        } finally {
            System.setOut(out);
        }
        return caught.toString(StandardCharsets.UTF_8).replace(System.lineSeparator(), "\n");
    }

    private static void table(String readme) {
        for (Method method : CheapPlanner.class.getDeclaredMethods()) {
            if (Modifier.isPublic(method.getModifiers())) {
                String row = row(readme, method.getName());
                Desk.due(method.getName() + " throws, by the table", thrown(method), () -> thrown(row));
            }
        }
    }

    private static String row(String readme, String name) {
        return readme.lines().filter(line -> line.startsWith("| `" + name + "(")).findFirst().orElse("no row");
    }

    private static String thrown(Method method) {
        return Arrays.stream(method.getExceptionTypes()).map(Class::getSimpleName).toList().toString();
    }

    private static String thrown(String row) {
        return Arrays.stream(row.split("`")).filter(word -> word.endsWith("Exception") || word.equals("no row")).toList().toString();
    }
}

import java.io.ByteArrayOutputStream;
import java.io.IOException;
import java.io.PrintStream;
import java.lang.reflect.InvocationTargetException;
import java.net.URL;
import java.net.URLClassLoader;
import java.nio.charset.StandardCharsets;
import java.nio.file.Files;
import java.nio.file.Path;
import java.util.ArrayList;
import java.util.List;
import java.util.regex.Matcher;
import java.util.regex.Pattern;
import java.util.stream.Collectors;
import javax.tools.ToolProvider;

/** The program that README.md shows: it compiles, and prints what the page says behind each line. */
public final class ReadmeTest {
    private static final Path PAGE = Path.of("README.md");
    private static final Pattern PROGRAM = Pattern.compile("(?s)```java\\n(.*?)```");
    private static final Pattern PRINTED = Pattern.compile("println\\(.*// (-?\\d+):");

    private static String program(String page) {
        Matcher found = PROGRAM.matcher(page);
        return found.find() ? found.group(1) : "";
    }

    private static String due(String program) {
        List<String> numbers = new ArrayList<>();
        Matcher found = PRINTED.matcher(program);
        while (found.find()) {
            numbers.add(found.group(1));
        }
        return String.join("\n", numbers);
    }

    private static boolean compile(Path directory, String program) throws IOException {
        Path file = Files.writeString(directory.resolve("Visits.java"), program);
        return ToolProvider.getSystemJavaCompiler().run(null, System.out, System.out, "-cp",
                System.getProperty("java.class.path"), "-d", directory.toString(), file.toString()) == 0;
    }

    private static String printed(Path directory) throws IOException, ReflectiveOperationException {
        PrintStream before = System.out;
        ByteArrayOutputStream bytes = new ByteArrayOutputStream();
        System.setOut(new PrintStream(bytes, true, StandardCharsets.UTF_8));
        try (URLClassLoader loader = new URLClassLoader(new URL[] {directory.toUri().toURL()})) {
            loader.loadClass("Visits").getMethod("main", String[].class).invoke(null, (Object) new String[0]);
        } catch (InvocationTargetException e) {
            System.out.println(e.getCause());
        } finally {
            System.setOut(before);
        }
        return bytes.toString(StandardCharsets.UTF_8).lines().collect(Collectors.joining("\n"));
    }

    private static void remove(Path directory) throws IOException {
        try (var files = Files.list(directory)) {
            for (Path file : files.toList()) {
                Files.delete(file);
            }
        }
        Files.delete(directory);
    }

    public static void main(String[] args) throws IOException, ReflectiveOperationException {
        String program = program(Files.readString(PAGE));
        Path directory = Files.createTempDirectory("readme");
        Check.is("lines with a number", due(program).isEmpty() ? 0 : 1, 1);
        Check.is("each line that prints has its number", program.split("println").length,
                due(program).split("\n").length + 1);
        boolean compiles = compile(directory, program);
        Check.is("the program compiles", compiles ? 1 : 0, 1);
        if (compiles) {
            Check.same("what the program prints", printed(directory), due(program));
        }
        remove(directory);
        Check.end();
    }
}

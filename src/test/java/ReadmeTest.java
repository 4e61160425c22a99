import java.io.ByteArrayOutputStream;
import java.io.IOException;
import java.io.PrintStream;
import java.net.URL;
import java.net.URLClassLoader;
import java.nio.charset.StandardCharsets;
import java.nio.file.Files;
import java.nio.file.Path;
import java.util.regex.Matcher;
import java.util.regex.Pattern;
import javax.tools.ToolProvider;

/** The example of README.md compiles, and prints what the README says that it prints. */
public final class ReadmeTest {
    private static final Pattern EXAMPLE = Pattern.compile("```java\\n(.*?)```", Pattern.DOTALL);
    private static final Pattern PRINTED = Pattern.compile("System\\.out\\.println\\(.*\\); +// (-?\\d+): ");

    private ReadmeTest() {
    }

    public static void main(String[] args) throws IOException, ReflectiveOperationException {
        String readme = Files.readString(Path.of(System.getProperty("project", "."), "README.md"));
        Matcher example = EXAMPLE.matcher(readme);
        Check.same("an example is there", example.find() ? 1 : 0, 1);
        String program = example.group(1);
        StringBuilder due = new StringBuilder();
        int lines = 0;
        for (Matcher printed = PRINTED.matcher(program); printed.find(); lines++) {
            due.append(printed.group(1)).append('\n');
        }
        Check.same("each line that prints tells what", lines, program.split("System\\.out\\.println", -1).length - 1);
        Check.same("the example", printedBy(program), due.toString());
        Check.same("there is one example", example.find() ? 1 : 0, 0);
        Check.finish("ReadmeTest");
    }

    private static String printedBy(String program) throws IOException, ReflectiveOperationException {
        Path folder = Files.createTempDirectory("readme");
        Path source = Files.writeString(folder.resolve("Example.java"), program);
        int compiled = ToolProvider.getSystemJavaCompiler().run(null, null, null, "-cp",
            System.getProperty("java.class.path"), "-d", folder.toString(), source.toString());
        Check.same("the example compiles", compiled, 0);
        ByteArrayOutputStream printed = new ByteArrayOutputStream();
        PrintStream screen = System.out;
        try (URLClassLoader loader = new URLClassLoader(new URL[] {folder.toUri().toURL()})) {
            System.setOut(new PrintStream(printed, true, StandardCharsets.UTF_8));
            loader.loadClass("Example").getMethod("main", String[].class).invoke(null, (Object) new String[0]);
        } finally {
            System.setOut(screen);
            Files.deleteIfExists(folder.resolve("Example.class"));
            Files.delete(source);
            Files.delete(folder);
        }
        return printed.toString(StandardCharsets.UTF_8).replace(System.lineSeparator(), "\n");
    }
}

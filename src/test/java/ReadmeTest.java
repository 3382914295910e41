import java.io.ByteArrayOutputStream;
import java.io.IOException;
import java.io.PrintStream;
import java.lang.reflect.Method;
import java.lang.reflect.Modifier;
import java.net.URL;
import java.net.URLClassLoader;
import java.nio.file.Files;
import java.nio.file.Path;
import java.util.List;
import java.util.stream.Stream;
import javax.tools.ToolProvider;

/** The example in README.md compiles with the program, and prints what stands behind it there. */
public final class ReadmeTest {
    private static final Checks checks = new Checks("ReadmeTest");

    public static void main(String[] args) throws IOException, ReflectiveOperationException {
        List<String> readme = Files.readAllLines(Path.of("README.md"));
        String code = block(readme, "```java");
        checks.same("README.md has an example", code.contains("class Example"), true);
        checks.same("the example prints", printedBy(code), block(readme, "```text"));
        for (String call : calls()) {
            checks.same("README.md names " + call, String.join(" ", readme).contains("`" + call + "`"), true);
        }
        checks.end();
    }

    private static String block(List<String> lines, String opening) {
        StringBuilder block = new StringBuilder();
        boolean inside = false;
        for (String line : lines) {
            if (inside && line.equals("```")) {
                break;
            }
            if (inside) {
                block.append(line).append('\n');
            }
            inside = inside || line.equals(opening);
        }
        return block.toString();
    }

    private static List<String> calls() {
        return Stream.of(TaxWorkbench.class.getDeclaredMethods())
                .filter(method -> Modifier.isPublic(method.getModifiers())).map(Method::getName).toList();
    }

    private static String printedBy(String code) throws IOException, ReflectiveOperationException {
        Path folder = Files.createTempDirectory("readme");
        Path source = folder.resolve("Example.java");
        Path compiled = folder.resolve("Example.class");
        Files.writeString(source, code);
        int result = ToolProvider.getSystemJavaCompiler().run(null, null, null,
                "-cp", System.getProperty("java.class.path"), source.toString());
        checks.same("the example compiles", result, 0);
        String printed = result == 0 ? printedFrom(folder) : "";
        Files.deleteIfExists(compiled);
        Files.delete(source);
        Files.delete(folder);
        return printed;
    }

    private static String printedFrom(Path folder) throws IOException, ReflectiveOperationException {
        PrintStream console = System.out;
        ByteArrayOutputStream printed = new ByteArrayOutputStream();
        try (URLClassLoader loader = new URLClassLoader(new URL[] {folder.toUri().toURL()})) {
            System.setOut(new PrintStream(printed, true));
            loader.loadClass("Example").getMethod("main", String[].class).invoke(null, (Object) new String[0]);
        } finally {
            System.setOut(console);
        }
        return printed.toString();
    }
}

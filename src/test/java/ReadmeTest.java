import java.io.ByteArrayOutputStream;
import java.io.PrintStream;
import java.net.URL;
import java.net.URLClassLoader;
import java.nio.charset.StandardCharsets;
import java.nio.file.Files;
import java.nio.file.Path;
import javax.tools.ToolProvider;

/** The example of README.md is compiled and run: it prints what README.md says. */
public final class ReadmeTest {
    public static void main(String[] args) throws Exception {
        Check check = new Check("ReadmeTest");
        String readme = Files.readString(Path.of("README.md"));
        String example = between(readme, readme.indexOf("### An example"), "```java\n");
        String due = between(readme, readme.indexOf("It prints"), "```text\n");
        String got = run(example);
        String[] gotLines = got.split("\n");
        String[] dueLines = due.split("\n");
        check.same("lines", gotLines.length, dueLines.length);
        for (int i = 0; i < Math.min(gotLines.length, dueLines.length); i++) {
            check.same("\"" + gotLines[i] + "\" for \"" + dueLines[i] + "\"", gotLines[i].equals(dueLines[i]), true);
        }
        check.end();
    }

    private static String between(String readme, int from, String head) {
        int at = readme.indexOf(head, from) + head.length();
        return readme.substring(at, readme.indexOf("```", at));
    }

    private static String run(String example) throws Exception {
        Path place = Files.createTempDirectory("readme");
        Path file = place.resolve("Example.java");
        Files.writeString(file, example);
        int compiled = ToolProvider.getSystemJavaCompiler().run(null, null, null, "-cp", System.getProperty("java.class.path"),
            "-d", place.toString(), file.toString());
        PrintStream out = System.out;
        ByteArrayOutputStream printed = new ByteArrayOutputStream();
        if (compiled != 0) {
            return "it does not compile";
        }
        try (URLClassLoader loader = new URLClassLoader(new URL[] {place.toUri().toURL()})) {
            System.setOut(new PrintStream(printed, true, StandardCharsets.UTF_8));
            loader.loadClass("Example").getMethod("main", String[].class).invoke(null, (Object) new String[0]);
        } finally {
            System.setOut(out);
            for (String name : new String[] {"Example.java", "Example.class"}) {
                Files.deleteIfExists(place.resolve(name));
            }
            Files.deleteIfExists(place);
        }
        return printed.toString(StandardCharsets.UTF_8).replace("\r", "");
    }
}

import java.io.ByteArrayOutputStream;
import java.io.IOException;
import java.io.PrintStream;
import java.net.URL;
import java.net.URLClassLoader;
import java.nio.charset.StandardCharsets;
import java.nio.file.Files;
import java.nio.file.Path;
import java.util.Comparator;
import java.util.List;
import java.util.stream.Stream;
import javax.tools.ToolProvider;

/** README.md's example is compiled and run: it prints what stands below it there. */
final class ReadmeTest {
    public static void main(String[] args) throws Exception {
        String readme = Files.readString(Path.of("README.md"), StandardCharsets.US_ASCII);
        String program = block(readme, "```java\npublic final class Example");
        String due = block(readme, "It prints:\n\n```text\n");
        Path folder = Files.createTempDirectory("readme");
        String got;
        try {
            got = printedBy(folder, program);
        } finally {
            remove(folder);
        }
        House h = new House("README.md");
        h.due("the example", got, due);
        h.due("it shows much", due.length() > 200 ? 1 : 0, 1);
        System.exit(House.ending());
    }

    /** What stands in the block that begins so. */
    private static String block(String readme, String beginning) {
        int at = readme.indexOf(beginning);
        int from = readme.indexOf('\n', readme.indexOf("```", at)) + 1;
        int to = readme.indexOf("```", from);
        return at < 0 || to < 0 ? "" : readme.substring(from, to);
    }

    private static String printedBy(Path folder, String program) throws Exception {
        Path file = folder.resolve("Example.java");
        Files.writeString(file, program, StandardCharsets.US_ASCII);
        int code = ToolProvider.getSystemJavaCompiler().run(null, null, null, "-d", folder.toString(), "-cp", System.getProperty("java.class.path"), file.toString());
        if (code != 0) {
            return "it does not compile";
        }
        PrintStream out = System.out;
        ByteArrayOutputStream printed = new ByteArrayOutputStream();
        try (URLClassLoader loader = new URLClassLoader(new URL[] {folder.toUri().toURL()}, ReadmeTest.class.getClassLoader())) {
            System.setOut(new PrintStream(printed, true, StandardCharsets.US_ASCII));
            loader.loadClass("Example").getMethod("main", String[].class).invoke(null, (Object) new String[0]);
        } finally {
            System.setOut(out);
        }
        return printed.toString(StandardCharsets.US_ASCII).replace("\r\n", "\n");
    }

    private static void remove(Path folder) throws IOException {
        List<Path> all;
        try (Stream<Path> found = Files.walk(folder)) {
            all = found.sorted(Comparator.reverseOrder()).toList();
        }
        for (Path path : all) {
            Files.delete(path);
        }
    }
}

import java.io.ByteArrayOutputStream;
import java.io.IOException;
import java.io.PrintStream;
import java.net.URL;
import java.net.URLClassLoader;
import java.nio.charset.StandardCharsets;
import java.nio.file.Files;
import java.nio.file.Path;
import java.util.Comparator;
import java.util.List;
import java.util.stream.Stream;
import javax.tools.ToolProvider;

/** The example of README.md compiles as it stands there, and prints what README.md says. */
public final class ReadmeRuns {
    private static final String EXAMPLE = "Example";

    public static void main(String[] args) throws Exception {
        List<String> readme = Files.readAllLines(Path.of("README.md"));
        String due = block(readme, "```text");
        String printed = printedBy(block(readme, "```java"));
        boolean same = !due.isEmpty() && printed.equals(due);
        System.out.println(same ? "the example prints what is due" : "printed:\n" + printed + "due is:\n" + due);
        if (!same) {
            System.exit(1);
        }
    }

    /** The lines of the first block that begins so; none when there is no such block. */
    private static String block(List<String> lines, String first) {
        StringBuilder block = new StringBuilder();
        boolean inside = false;
        for (String line : lines) {
            if (inside && line.startsWith("```")) {
                return block.toString();
            }
            if (inside) {
                block.append(line).append('\n');
            }
            inside = inside || line.equals(first);
        }
        return "";
    }

    private static String printedBy(String example) throws Exception {
        Path folder = Files.createTempDirectory("readme");
        try {
            Path source = folder.resolve(EXAMPLE + ".java");
            Files.writeString(source, "public class " + EXAMPLE + " {\npublic static void main(String[] args) {\n"
                + example + "}\n}\n");
            int answer = ToolProvider.getSystemJavaCompiler().run(null, null, null, "--release", "17",
                "-cp", System.getProperty("java.class.path"), "-d", folder.toString(), source.toString());
            return answer == 0 ? printedIn(folder) : "nothing, for it does not compile\n";
        } finally {
            removeAll(folder);
        }
    }

    private static String printedIn(Path folder) throws Exception {
        PrintStream before = System.out;
        ByteArrayOutputStream printed = new ByteArrayOutputStream();
        try (URLClassLoader loader = new URLClassLoader(new URL[] {folder.toUri().toURL()})) {
            System.setOut(new PrintStream(printed, true, StandardCharsets.UTF_8));
            loader.loadClass(EXAMPLE).getMethod("main", String[].class).invoke(null, (Object) new String[0]);
        } finally {
            System.setOut(before);
        }
        return printed.toString(StandardCharsets.UTF_8).replace(System.lineSeparator(), "\n");
    }

    private static void removeAll(Path folder) throws IOException {
        try (Stream<Path> all = Files.walk(folder)) {
            for (Path path : all.sorted(Comparator.reverseOrder()).toList()) {
                Files.delete(path);
            }
        }
    }
}

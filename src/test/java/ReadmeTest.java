import java.io.ByteArrayOutputStream;
import java.io.IOException;
import java.io.PrintStream;
import java.nio.charset.StandardCharsets;
import java.nio.file.Files;
import java.nio.file.Path;
import java.util.List;
import javax.tools.JavaCompiler;
import javax.tools.ToolProvider;

/** The example in README.md, which is read from the directory that the tests are run in, as .ci/run does. */
public final class ReadmeTest {
    public static void main(String[] args) {
        Cases.run(ReadmeTest.class);
    }

    static void promises_areKeptInTheReadmesExample(Check check) throws IOException, InterruptedException {
        List<String> readme = Files.readAllLines(Path.of("README.md"), StandardCharsets.UTF_8);
        String due = block(readme, "```text");
        Path work = Files.createTempDirectory("readme");
        Path source = work.resolve("Example.java");
        try {
            Files.writeString(source, block(readme, "```java"));
            String got = compileAndRun(source);
            check.yes("the example prints\n" + got + "but README.md tells\n" + due, !due.isEmpty() && got.equals(due));
        } finally {
            for (String name : new String[] {"Example.java", "Example.class"}) {
                Files.deleteIfExists(work.resolve(name));
            }
            Files.delete(work);
        }
    }

    /** The lines of the first block that begins so; none if there is no such block. */
    private static String block(List<String> lines, String fence) {
        StringBuilder text = new StringBuilder();
        for (int i = lines.indexOf(fence) + 1; i > 0 && i < lines.size() && !lines.get(i).equals("```"); i++) {
            text.append(lines.get(i)).append('\n');
        }
        return text.toString();
    }

    private static String compileAndRun(Path source) throws IOException, InterruptedException {
        String classes = System.getProperty("java.class.path");
        JavaCompiler compiler = ToolProvider.getSystemJavaCompiler();
        ByteArrayOutputStream told = new ByteArrayOutputStream();
        PrintStream out = new PrintStream(told, true, StandardCharsets.UTF_8);
        String[] options = {"-cp", classes, "-d", source.getParent().toString(), source.toString()};
        if (compiler == null || compiler.run(null, out, out, options) != 0) {
            return "(it does not compile)\n" + told.toString(StandardCharsets.UTF_8);
        }
        Path java = Path.of(System.getProperty("java.home"), "bin", "java");
        String path = classes + System.getProperty("path.separator") + source.getParent();
        Process example = new ProcessBuilder(java.toString(), "-cp", path, "Example").redirectErrorStream(true).start();
        String got = new String(example.getInputStream().readAllBytes(), StandardCharsets.UTF_8);
        return example.waitFor() == 0 ? got : got + "(its exit code is not 0)\n";
    }
}

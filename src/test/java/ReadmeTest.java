import java.io.File;
import java.io.IOException;
import java.nio.charset.StandardCharsets;
import java.nio.file.Files;
import java.nio.file.Path;
import javax.tools.ToolProvider;

/** The example of README.md compiles, and prints what README.md says that it does. */
public final class ReadmeTest {
    public static void main(String[] args) throws IOException, InterruptedException {
        String readme = Files.readString(Path.of("README.md"), StandardCharsets.UTF_8);
        Path out = Files.createTempDirectory("readme");
        try {
            Files.writeString(out.resolve("Example.java"), block(readme, "java"));
            Suite.is("the example", block(readme, "text"), printed(out));
        } finally {
            for (File file : out.toFile().listFiles()) {
                file.delete();
            }
            out.toFile().delete();
        }
        Suite.end("ReadmeTest");
    }

    /** The first block of that kind. */
    private static String block(String readme, String kind) {
        String start = "```" + kind + "\n";
        int from = readme.indexOf(start);
        int to = readme.indexOf("```\n", from + start.length());
        Suite.tell(from >= 0 && to >= 0, "README.md has no block of " + kind);
        return from >= 0 && to >= 0 ? readme.substring(from + start.length(), to) : "";
    }

    private static String printed(Path out) throws IOException, InterruptedException {
        String classes = System.getProperty("java.class.path");
        int refused = ToolProvider.getSystemJavaCompiler().run(null, null, null, "-d", out.toString(), "-cp", classes,
                out.resolve("Example.java").toString());
        Suite.is("the compiler, of the example", 0, refused);
        Path java = Path.of(System.getProperty("java.home"), "bin", "java");
        Process example = new ProcessBuilder(java.toString(), "-cp", out + File.pathSeparator + classes, "Example")
                .redirectErrorStream(true).start();
        String text = new String(example.getInputStream().readAllBytes(), StandardCharsets.UTF_8);
        Suite.is("the example's exit code", 0, example.waitFor());
        return text;
    }
}

import java.io.ByteArrayOutputStream;
import java.io.File;
import java.io.IOException;
import java.io.PrintStream;
import java.net.URL;
import java.net.URLClassLoader;
import java.nio.file.Files;
import java.nio.file.Path;
import java.util.Comparator;
import java.util.List;
import java.util.stream.Stream;
import javax.tools.ToolProvider;

/** README.md as it stands: its example compiles and prints what is told of it; all tests are named. */
public final class ReadmeTest extends Checks {
    public static void main(String[] args) throws IOException, ReflectiveOperationException {
        String readme = Files.readString(Path.of("README.md"));
        due("the example", printed(block(readme, "java")), block(readme, "text"));
        try (Stream<Path> files = Files.list(Path.of("src/test/java"))) {
            for (Path file : files.toList()) {
                String name = file.getFileName().toString().replace(".java", "");
                due(name + " is named", readme.contains("`" + name + "`"));
            }
        }
        due("how to run them", readme.contains("    .ci/run\n"));
        end();
    }

    /** The text of the first block of this kind. */
    private static String block(String readme, String kind) {
        int from = readme.indexOf("```" + kind + "\n") + kind.length() + 4;
        return readme.substring(from, readme.indexOf("```\n", from));
    }

    private static String printed(String program) throws IOException, ReflectiveOperationException {
        Path dir = Files.createTempDirectory("readme");
        Path file = dir.resolve("Example.java");
        Files.writeString(file, program);
        PrintStream before = System.out;
        ByteArrayOutputStream out = new ByteArrayOutputStream();
        int code = ToolProvider.getSystemJavaCompiler().run(null, null, null, "-cp",
            System.getProperty("java.class.path"), "-d", dir.toString(), file.toString());
        due("the example compiles", code, 0);
        try (URLClassLoader loader = new URLClassLoader(new URL[] {dir.toUri().toURL()})) {
            System.setOut(new PrintStream(out, true));
            loader.loadClass("Example").getMethod("main", String[].class)
                .invoke(null, (Object) new String[0]);
        } finally {
            System.setOut(before);
            remove(dir);
        }
        return out.toString();
    }

    private static void remove(Path dir) throws IOException {
        try (Stream<Path> all = Files.walk(dir)) {
            List<File> files = all.sorted(Comparator.reverseOrder()).map(Path::toFile).toList();
            files.forEach(File::delete);
        }
    }
}

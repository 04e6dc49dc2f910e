import java.io.ByteArrayOutputStream;
import java.io.IOException;
import java.io.PrintStream;
import java.net.URL;
import java.net.URLClassLoader;
import java.nio.charset.StandardCharsets;
import java.nio.file.Files;
import java.nio.file.Path;
import java.util.Comparator;
import java.util.List;
import java.util.spi.ToolProvider;
import java.util.stream.Stream;

/** README.md's example compiles and prints what README.md says; run in the project's folder. */
public final class ReadmeTest {
    private ReadmeTest() {
    }

    public static void main(String[] args) throws Exception {
        String readme = Files.readString(Path.of("README.md"));
        String printed = run(block(readme, "java"));
        String due = block(readme, "text");
        boolean same = printed.equals(due);
        if (!same) {
            System.out.println("README.md's example printed\n" + printed + "and README.md says\n" + due);
        }
        System.out.println((same ? 1 : 0) + " passed, " + (same ? 0 : 1) + " failed");
        System.exit(same ? 0 : 1);
    }

    private static String block(String readme, String kind) {
        String fence = "```" + kind + "\n";
        int from = readme.indexOf(fence) + fence.length();
        return readme.substring(from, readme.indexOf("```", from));
    }

    private static String run(String source) throws Exception {
        Path folder = Files.createTempDirectory("readme");
        try {
            Path file = Files.writeString(folder.resolve("Example.java"), source);
            int wrong = ToolProvider.findFirst("javac").orElseThrow().run(System.out, System.out, "-Xlint:all", "-Werror",
                "-cp", System.getProperty("java.class.path"), "-d", folder.toString(), file.toString());
            return wrong == 0 ? printed(folder) : "nothing, as it does not compile\n";
        } finally {
            delete(folder);
        }
    }

    private static String printed(Path folder) throws Exception {
        ByteArrayOutputStream bytes = new ByteArrayOutputStream();
        PrintStream screen = System.out;
        try (URLClassLoader loader = new URLClassLoader(new URL[] {folder.toUri().toURL()})) {
            System.setOut(new PrintStream(bytes, true, StandardCharsets.UTF_8));
            loader.loadClass("Example").getMethod("main", String[].class).invoke(null, (Object) new String[0]);
        } finally {
            System.setOut(screen);
        }
        return bytes.toString(StandardCharsets.UTF_8).replace(System.lineSeparator(), "\n");
    }

    private static void delete(Path folder) throws IOException {
        try (Stream<Path> all = Files.walk(folder)) {
            List<Path> files = all.sorted(Comparator.reverseOrder()).toList();
            for (Path each : files) {
                Files.delete(each);
            }
        }
    }
}

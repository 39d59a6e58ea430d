import java.io.IOException;
import java.net.URL;
import java.net.URLClassLoader;
import java.nio.file.Files;
import java.nio.file.Path;
import java.util.Comparator;
import java.util.List;
import java.util.stream.Stream;
import javax.tools.JavaCompiler;
import javax.tools.ToolProvider;

/**
 * Runs RowsTest against the same source with other constants: numbers of targets from 8 on are large. So what only
 * rows of more than 2 to the power of 60 targets use is held against plain lists.
 */
public final class SmallDigitsTest {
    private static final String[][] CHANGES = {
        {"int DIGIT = 60;", "int DIGIT = 3;"},
        {"int DIGITS = 17;", "int DIGITS = 340;"},
    };

    public static void main(String[] args) throws Exception {
        JavaCompiler compiler = ToolProvider.getSystemJavaCompiler();
        if (compiler == null) {
            System.out.println("SmallDigitsTest: left out, this java has no compiler in it");
            return;
        }
        Path made = Files.createTempDirectory("rows");
        try {
            String source = Files.readString(Path.of("src/main/java/Reifytown.java"));
            for (String[] change : CHANGES) {
                if (!source.contains(change[0])) {
                    throw new IllegalStateException("the source has no " + change[0]);
                }
                source = source.replace(change[0], change[1]);
            }
            Path changed = Files.writeString(made.resolve("Reifytown.java"), source);
            int result = compiler.run(null, null, null, "-d", made.toString(), changed.toString(),
                "src/test/java/Checks.java", "src/test/java/RowsTest.java");
            if (result != 0) {
                throw new IllegalStateException("the changed source does not compile");
            }
            try (URLClassLoader loader = new URLClassLoader(new URL[] {made.toUri().toURL()}, null)) {
                loader.loadClass("RowsTest").getMethod("main", String[].class).invoke(null, (Object) args);
            }
            System.out.println("SmallDigitsTest: RowsTest passed with small digits");
        } finally {
            remove(made);
        }
    }

    private static void remove(Path made) throws IOException {
        try (Stream<Path> all = Files.walk(made)) {
            List<Path> paths = all.sorted(Comparator.reverseOrder()).toList();
            for (Path path : paths) {
                Files.delete(path);
            }
        }
    }
}

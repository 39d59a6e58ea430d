import java.io.IOException;
import java.net.URL;
import java.net.URLClassLoader;
import java.nio.file.Files;
import java.nio.file.Path;
import java.util.ArrayList;
import java.util.Comparator;
import java.util.List;
import java.util.regex.Matcher;
import java.util.regex.Pattern;
import java.util.stream.Stream;
import javax.tools.JavaCompiler;
import javax.tools.ToolProvider;

/** The code in README.md compiles, and each call with a comment that begins with 'is' answers what it says. */
public final class ReadmeTest {
    private static final Pattern BLOCK = Pattern.compile("```java\n(.*?)```", Pattern.DOTALL);
    private static final Pattern ANSWER = Pattern.compile("(?m)^(town\\..*\\));\\s+// is (\\S+)$");

    private ReadmeTest() {
    }

    public static void main(String[] args) throws Exception {
        JavaCompiler compiler = ToolProvider.getSystemJavaCompiler();
        if (compiler == null) {
            System.out.println("ReadmeTest: left out, this java has no compiler in it");
            return;
        }
        List<String> blocks = blocks(Files.readString(Path.of("README.md")));
        Checks.same("README.md has code", blocks.isEmpty(), false);
        Path made = Files.createTempDirectory("readme");
        try {
            for (int i = 0; i < blocks.size(); i++) {
                String name = "ReadmeCode" + i;
                Path source = Files.writeString(made.resolve(name + ".java"), program(name, blocks.get(i)));
                int result = compiler.run(null, null, null, "-cp", System.getProperty("java.class.path"), "-d", made.toString(),
                    source.toString());
                Checks.same(name + " compiles", result, 0);
                if (result == 0) {
                    perform(made, name);
                }
            }
        } finally {
            remove(made);
        }
        Checks.close("ReadmeTest");
    }

    private static List<String> blocks(String text) {
        List<String> blocks = new ArrayList<>();
        Matcher block = BLOCK.matcher(text);
        while (block.find()) {
            blocks.add(block.group(1));
        }
        return blocks;
    }

    /** A program that answers each call with what it got and what it should have got, a line each. */
    private static String program(String name, String block) {
        String told = ANSWER.matcher(block).replaceAll("told.add(new Object[] {\"$1\", $1, $2});");
        return "public final class " + name + " {\n public static java.util.List<Object[]> perform() {\n"
            + "java.util.List<Object[]> told = new java.util.ArrayList<>();\n" + told + "return told;\n }\n}\n";
    }

    private static void perform(Path made, String name) throws Exception {
        try (URLClassLoader loader = new URLClassLoader(new URL[] {made.toUri().toURL()})) {
            List<?> told = (List<?>) loader.loadClass(name).getMethod("perform").invoke(null);
            Checks.same(name + " tells answers", told.isEmpty(), false);
            for (Object row : told) {
                Object[] call = (Object[]) row;
                Checks.same(name + ", " + call[0], call[1], call[2]);
            }
        }
    }

    private static void remove(Path made) throws IOException {
        try (Stream<Path> all = Files.walk(made)) {
            List<Path> paths = all.sorted(Comparator.reverseOrder()).toList();
            for (Path path : paths) {
                Files.delete(path);
            }
        }
    }
}

import java.io.File;
import java.io.IOException;
import java.lang.reflect.InvocationTargetException;
import java.net.URL;
import java.net.URLClassLoader;
import java.nio.file.Files;
import java.nio.file.Path;
import java.util.Comparator;
import java.util.List;
import java.util.regex.Matcher;
import java.util.regex.Pattern;
import java.util.stream.Stream;
import javax.tools.ToolProvider;

/** Compiles and runs the rows of Java in README.md, and holds their answers against its words. */
public final class ReadmeTest {
    private static final Path README = Path.of("README.md");
    private static final Pattern BLOCK = Pattern.compile("(?ms)^```java\\n(.*?)^```$");
    private static final Pattern ROW = Pattern.compile("(?m)^(int \\w+ = )?(.*?); *// (answers|throws) (\\S+)$");
    private static final int BLOCKS = 3;
    private static final int FEWEST_ROWS = 35;

    private static int rows;
    private static int wrong;

    public static void main(String[] args) throws Exception {
        StringBuilder blocks = new StringBuilder();
        int count = 0;
        Matcher matcher = BLOCK.matcher(Files.readString(README));
        while (matcher.find()) {
            blocks.append("static void block").append(count++).append("() {\n").append(checked(matcher.group(1))).append("}\n");
        }
        Path made = Files.createTempDirectory("readme");
        try {
            runBlocks(compile(blocks, made), made, count);
        } finally {
            remove(made);
        }
        if (count != BLOCKS || rows < FEWEST_ROWS) {
            tell("only " + count + " blocks with " + rows + " rows were found");
        }
        System.out.println("ReadmeTest: " + rows + " rows, " + wrong + " wrong");
        if (wrong != 0) {
            System.exit(1);
        }
    }

    /** Each row that tells an answer or an exception becomes a call of this class's own check. */
    private static String checked(String block) {
        return ROW.matcher(block).replaceAll(row -> {
            String variable = row.group(1) == null ? "" : row.group(1) + row.group(2) + ";";
            String call = variable.isEmpty() ? row.group(2) : variable.split(" ")[1];
            return Matcher.quoteReplacement(variable + "ReadmeTest.check(\"" + row.group(2) + "\", \"" + row.group(3) + " "
                    + row.group(4) + "\", () -> " + call + ");");
        });
    }

    private static Path compile(CharSequence blocks, Path made) throws IOException {
        Path source = made.resolve("Readme.java");
        Files.writeString(source, "public final class Readme {\n" + blocks + "}\n");
        String path = System.getProperty("java.class.path") + File.pathSeparator + made;
        int ended = ToolProvider.getSystemJavaCompiler().run(null, null, null, "-proc:none", "-cp", path,
                "-d", made.toString(), source.toString());
        if (ended != 0) {
            tell("the rows do not compile");
        }
        return made.resolve("Readme.class");
    }

    private static void runBlocks(Path compiled, Path made, int count) throws Exception {
        if (!Files.exists(compiled)) {
            return;
        }
        try (URLClassLoader loader = new URLClassLoader(new URL[] {made.toUri().toURL()}, ReadmeTest.class.getClassLoader())) {
            for (int i = 0; i < count; i++) {
                var block = loader.loadClass("Readme").getDeclaredMethod("block" + i);
                block.setAccessible(true);
                try {
                    block.invoke(null);
                } catch (InvocationTargetException e) {
                    tell("block " + i + " threw " + e.getCause());
                }
            }
        }
    }

    /** A row's call; the rows of the page call it by way of the class made of them. */
    public interface Call {
        Object make();
    }

    public static void check(String row, String due, Call call) {
        rows++;
        String got;
        try {
            got = "answers " + call.make();
        } catch (RuntimeException e) {
            got = "throws " + e.getClass().getSimpleName();
        }
        if (!due.equals(got)) {
            tell(row + " " + got + ", the page says: " + due);
        }
    }

    private static void tell(String what) {
        wrong++;
        System.out.println(what);
    }

    private static void remove(Path made) throws IOException {
        try (Stream<Path> files = Files.walk(made)) {
            List<Path> deepestFirst = files.sorted(Comparator.reverseOrder()).toList();
            for (Path file : deepestFirst) {
                Files.delete(file);
            }
        }
    }
}

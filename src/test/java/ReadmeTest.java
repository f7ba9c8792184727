import java.io.IOException;
import java.io.StringWriter;
import java.net.URL;
import java.net.URLClassLoader;
import java.nio.file.Files;
import java.nio.file.Path;
import java.util.ArrayList;
import java.util.List;
import java.util.Set;
import java.util.TreeSet;
import java.util.regex.Matcher;
import java.util.regex.Pattern;
import java.util.stream.Stream;
import javax.tools.JavaCompiler;
import javax.tools.StandardJavaFileManager;
import javax.tools.ToolProvider;

/**
 * What README.md shows holds: its Java is compiled as it stands there, each call with an answer
 * behind it is asked, in the order of the page; and its table names the tests that there are.
 */
public final class ReadmeTest {
    private static final Checks CHECKS = new Checks("ReadmeTest");
    private static final Pattern BLOCK = Pattern.compile("```java\n(.*?)```", Pattern.DOTALL);
    private static final Pattern ASKED = Pattern.compile("(\\S.*\\));\\s+// (-?[0-9]+)(: .*)");
    private static final Pattern MADE = Pattern.compile("LastCoat x = new LastCoat\\(\\);");
    private static final Pattern ROW = Pattern.compile("(?m)^\\| `(\\w+Test)` \\|");

    private final StringBuilder functions = new StringBuilder();
    private final StringBuilder story = new StringBuilder();
    private final List<String> calls = new ArrayList<>();
    private final List<Long> shown = new ArrayList<>();

    public static void main(String[] args) throws IOException, ReflectiveOperationException {
        Path readme = Path.of(System.getProperty("lastcoat.readme", "README.md")).toAbsolutePath();
        String page = Files.readString(readme);
        new ReadmeTest().answersAreAsShown(page);
        namesEveryTest(page, readme.resolveSibling("src/test/java"));
        CHECKS.end();
    }

    private void answersAreAsShown(String page) throws IOException, ReflectiveOperationException {
        Matcher blocks = BLOCK.matcher(page);
        while (blocks.find()) {
            if (blocks.group(1).startsWith("static ")) {
                functions.append(blocks.group(1));
            } else {
                blocks.group(1).lines().filter(line -> !line.isBlank()).forEach(this::take);
            }
        }
        long[] answers = answersOf("public final class Shown {\n" + functions
            + "public static long[] answers() {\nlong[] got = new long[" + calls.size() + "];\nint i = 0;\n"
            + story + "return got;\n}\n}\n");
        for (int i = 0; i < answers.length; i++) {
            CHECKS.due("'" + calls.get(i) + "'", answers[i], shown.get(i));
        }
        for (String name : new String[] {"vote", "carry", "save", "worth", "game", "speaks", "lining", "undo", "keep",
            "back", "saw", "fits", "rate", "trace", "member", "told"}) {
            CHECKS.due(name + "() is shown", calls.stream().anyMatch(c -> c.startsWith("x." + name + "(")) ? 1 : 0, 1);
        }
    }

    /** A line of what is asked: an object made, or a call with its answer behind it. */
    private void take(String line) {
        Matcher asked = ASKED.matcher(line);
        if (asked.matches()) {
            calls.add(asked.group(1));
            shown.add(Long.valueOf(asked.group(2)));
            story.append("got[i++] = ").append(asked.group(1)).append(";\n");
        } else {
            CHECKS.due("'" + line + "' makes an object or shows an answer", MADE.matcher(line).matches() ? 1 : 0, 1);
            story.append(line).append('\n');
        }
    }

    private static long[] answersOf(String text) throws IOException, ReflectiveOperationException {
        Path folder = Files.createTempDirectory("readme");
        Path source = folder.resolve("Shown.java");
        Path made = folder.resolve("Shown.class");
        try (URLClassLoader loader = new URLClassLoader(new URL[] {folder.toUri().toURL()})) {
            Files.writeString(source, text);
            compile(source, folder);
            return (long[]) loader.loadClass("Shown").getMethod("answers").invoke(null);
        } finally {
            Files.deleteIfExists(source);
            Files.deleteIfExists(made);
            Files.deleteIfExists(folder);
        }
    }

    private static void compile(Path source, Path folder) throws IOException {
        JavaCompiler compiler = ToolProvider.getSystemJavaCompiler();
        StringWriter said = new StringWriter();
        try (StandardJavaFileManager files = compiler.getStandardFileManager(null, null, null)) {
            List<String> options = List.of("-d", folder.toString(), "-cp", System.getProperty("java.class.path"));
            boolean compiles = compiler.getTask(said, files, null, options, null,
                files.getJavaFileObjects(source)).call();
            CHECKS.due("README.md's Java compiles: " + said, compiles ? 1 : 0, 1);
        }
    }

    private static void namesEveryTest(String page, Path tests) throws IOException {
        Set<String> named = new TreeSet<>();
        Matcher rows = ROW.matcher(page);
        while (rows.find()) {
            named.add(rows.group(1));
        }
        Set<String> there = new TreeSet<>();
        try (Stream<Path> files = Files.list(tests)) {
            files.map(file -> file.getFileName().toString()).filter(name -> name.endsWith("Test.java"))
                .forEach(name -> there.add(name.substring(0, name.length() - ".java".length())));
        }
        CHECKS.due("the tests named, " + named + ", are those that there are, " + there,
            named.equals(there) ? 1 : 0, 1);
    }
}

import java.io.IOException;
import java.lang.reflect.Method;
import java.net.URL;
import java.net.URLClassLoader;
import java.nio.file.Files;
import java.nio.file.Path;
import java.util.ArrayList;
import java.util.List;
import java.util.regex.Matcher;
import java.util.regex.Pattern;
import javax.tools.ToolProvider;

/** README.md: its example is compiled and run row by row, and its tables have each call of the class, and no other. */
public final class ReadmeTests extends Kit {
    private static final Pattern ROW = Pattern.compile("(\\s+)((?:x\\.|tell\\().*\\));\\s+// (-?\\d+|true|false)(?:: .*)?");
    private static final Pattern CALL = Pattern.compile("    public (\\w+ \\w+\\([^)]*\\)) \\{");
    private static final Pattern TABLED = Pattern.compile("\\| `(\\w+ \\w+\\([^)]*\\))` \\|.*\\|.*\\|");

    /** The example asks here: it is loaded apart, so that it sees public methods alone. */
    public static void answered(String row, long got, long want) {
        says("README.md: " + row);
        due(got, want);
    }

    public static void answered(String row, boolean got, boolean want) {
        answered(row, got ? 1 : 0, want ? 1 : 0);
    }

    private static List<String> groups(Pattern pattern, List<String> lines) {
        List<String> found = new ArrayList<>();
        for (String line : lines) {
            Matcher m = pattern.matcher(line);
            if (m.matches()) {
                found.add(m.group(1));
            }
        }
        return found;
    }

    private static List<String> example(List<String> readme) {
        int start = readme.indexOf("```java");
        List<String> rest = readme.subList(start + 1, readme.size());
        return rest.subList(0, rest.indexOf("```"));
    }

    private static String asking(List<String> example) {
        StringBuilder s = new StringBuilder();
        for (String line : example) {
            Matcher m = ROW.matcher(line);
            if (m.matches()) {
                String row = m.group(2).replace("\"", "'");
                s.append("ReadmeTests.answered(\"" + row + "\", " + m.group(2) + ", " + m.group(3) + ");\n");
            } else {
                s.append(line).append('\n');
            }
        }
        return s.toString();
    }

    private static int rowsOf(List<String> example) {
        int rows = 0;
        for (String line : example) {
            if (ROW.matcher(line).matches()) {
                rows++;
            }
        }
        return rows;
    }

    private static void compile(Path folder, String source) throws IOException {
        Path file = folder.resolve("Example.java");
        Files.writeString(file, source);
        String path = System.getProperty("java.class.path");
        due(ToolProvider.getSystemJavaCompiler().run(null, null, null, "-cp", path, "-d", folder.toString(), file.toString()), 0);
    }

    private static void run(Path folder) throws Exception {
        try (URLClassLoader loader = new URLClassLoader(new URL[] {folder.toUri().toURL()})) {
            Method main = loader.loadClass("Example").getMethod("main", String[].class);
            main.invoke(null, (Object) new String[0]);
        }
    }

    private static void clear(Path folder) throws IOException {
        Files.deleteIfExists(folder.resolve("Example.java"));
        Files.deleteIfExists(folder.resolve("Example.class"));
        Files.delete(folder);
    }

    private static void checkExample(List<String> example) throws Exception {
        Path folder = Files.createTempDirectory("readme");
        says("README.md: the example stands as it is written");
        compile(folder, String.join("\n", example));
        run(folder);
        says("README.md: the example with its answers");
        compile(folder, asking(example));
        run(folder);
        clear(folder);
        says("README.md: each row of main() but the first has its answer");
        long calls = example.stream().filter(line -> line.matches(" {8}(x\\.|tell\\().*// .*")).count();
        due(rowsOf(example), calls);
    }

    private static void checkCalls(List<String> readme, List<String> calls) {
        List<String> tabled = groups(TABLED, readme);
        String example = String.join("\n", example(readme));
        for (String call : calls) {
            says("README.md has one row of a table for " + call);
            due(tabled.stream().filter(call::equals).count(), 1);
            says("README.md asks in its example " + call);
            due(example.contains("x." + call.replaceAll("\\w+ (\\w+)\\(.*", "$1") + "("), true);
        }
        says("README.md's tables have no other call");
        due(tabled.size(), calls.size());
        due(calls.size(), 36);
    }

    private static void checkTests(List<String> readme) throws IOException {
        String all = String.join("\n", readme);
        try (var files = Files.list(Path.of("src/test/java"))) {
            for (Path file : files.toList()) {
                says("README.md names " + file);
                due(all.contains(file.getFileName().toString()), true);
            }
        }
    }

    public static void main(String[] args) throws Exception {
        List<String> readme = Files.readAllLines(Path.of("README.md"));
        List<String> calls = groups(CALL, Files.readAllLines(Path.of("src/main/java/ReadAloud.java")));
        checkExample(example(readme));
        checkCalls(readme, calls);
        checkTests(readme);
        finish();
    }
}

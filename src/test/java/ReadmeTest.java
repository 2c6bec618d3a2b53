import java.net.URL;
import java.net.URLClassLoader;
import java.nio.file.Files;
import java.nio.file.Path;
import java.util.Comparator;
import java.util.List;
import java.util.regex.Matcher;
import java.util.regex.Pattern;
import java.util.stream.Stream;
import javax.tools.JavaCompiler;
import javax.tools.ToolProvider;

/** Every example of README.md answers as it says: its code is made into one class, compiled and run. */
public final class ReadmeTest {
    private static final Checks checks = new Checks();
    private static final Pattern BLOCK = Pattern.compile("(?ms)^```java\n(.*?)^```$");
    private static final Pattern ANSWER = Pattern.compile("(.*\\)); +// (-?\\d+)(:.*)?");

    public static void main(String[] args) throws Exception {
        String readme = Files.readString(Path.of("README.md"));
        StringBuilder methods = new StringBuilder();
        StringBuilder calls = new StringBuilder();
        int blocks = 0;
        Matcher block = BLOCK.matcher(readme);
        while (block.find()) {
            blocks++;
            if (block.group(1).startsWith("static ")) {
                methods.append(block.group(1));
            } else {
                addCalls(block.group(1), calls);
            }
        }
        checks.due("README.md has examples", blocks > 0 ? 1 : 0, 1);
        checks.due("README.md says how the tests are run", readme.contains("\n    .ci/run\n") ? 1 : 0, 1);
        run("public final class Example {\n" + methods + "public static void main(String[] args) {\n" + calls + "}\n}\n");
        checks.finish("ReadmeTest");
    }

    private static void addCalls(String block, StringBuilder calls) {
        for (String line : block.split("\n")) {
            Matcher answer = ANSWER.matcher(line);
            if (answer.matches()) {
                String call = answer.group(1).trim();
                calls.append("ReadmeTest.due(\"").append(call).append("\", ").append(call).append(", ").append(answer.group(2))
                        .append(");\n");
            } else {
                checks.due("an answer that can't be read: " + line, line.contains("//") ? 1 : 0, 0);
                calls.append(line).append('\n');
            }
        }
    }

    /** What the examples call with each answer. */
    public static void due(String call, long got, long want) {
        checks.due("README.md: " + call, got, want);
    }

    private static void run(String example) throws Exception {
        JavaCompiler compiler = ToolProvider.getSystemJavaCompiler();
        if (compiler == null) {
            checks.due("javac is there", 0, 1);
            return;
        }
        Path directory = Files.createTempDirectory("readme");
        try {
            Path source = directory.resolve("Example.java");
            Files.writeString(source, example);
            String classes = System.getProperty("java.class.path");
            int failed = compiler.run(null, null, null, "-cp", classes, "-d", directory.toString(), source.toString());
            checks.due("README.md's examples compile", failed, 0);
            if (failed == 0) {
                runMain(directory);
            }
        } finally {
            remove(directory);
        }
    }

    private static void runMain(Path directory) throws Exception {
        try (URLClassLoader loader = new URLClassLoader(new URL[] {directory.toUri().toURL()}, ReadmeTest.class.getClassLoader())) {
            loader.loadClass("Example").getMethod("main", String[].class).invoke(null, (Object) new String[0]);
        }
    }

    private static void remove(Path directory) throws Exception {
        List<Path> paths;
        try (Stream<Path> found = Files.walk(directory)) {
            paths = found.sorted(Comparator.reverseOrder()).toList();
        }
        for (Path path : paths) {
            Files.delete(path);
        }
    }
}

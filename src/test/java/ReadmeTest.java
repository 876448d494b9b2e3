import java.io.IOException;
import java.net.URL;
import java.net.URLClassLoader;
import java.nio.file.Files;
import java.nio.file.Path;
import java.util.ArrayList;
import java.util.List;
import java.util.regex.Matcher;
import java.util.regex.Pattern;
import javax.tools.JavaCompiler;
import javax.tools.ToolProvider;

/**
 * README.md is true: its example is compiled and run as it stands there, and each answer behind
 * "//" is the one that the call gives. And it is whole: it names each call and each file of tests.
 */
public final class ReadmeTest {
    private static final Path README = Path.of("README.md");
    private static final Path TESTS = Path.of("src", "test", "java");
    /** A call, its answer or the exception that it throws, and what else is told of it. */
    private static final Pattern ANSWERED = Pattern.compile(
            "\\s*(\\S.*);\\s+// (throws \\w+|-?\\d+(?:\\.\\d+)?)(?:[:,;] .*)?");

    /** The lines of the example, and what is due behind those that tell it. */
    private final List<String> calls = new ArrayList<>();
    private final List<String> due = new ArrayList<>();
    private final StringBuilder body = new StringBuilder();

    public static void main(String[] args) throws Exception {
        String readme = Files.readString(README);
        new ReadmeTest().example(readme);
        namesAllCalls(readme);
        namesAllTests(readme);
        Check.due("512 calls are told", readme.contains("512 calls") ? 1 : 0, 1);
        Check.finish();
    }

    // ---- the example

    private void example(String readme) throws Exception {
        Matcher block = Pattern.compile("```java\n(.*?)```", Pattern.DOTALL).matcher(readme);
        while (block.find()) {
            block.group(1).lines().forEach(this::take);
        }
        Check.due("the example tells answers", due.size() > 20 ? 1 : 0, 1);
        List<String> got = answers();
        Check.due("answers", got.size(), due.size());
        for (int i = 0; i < Math.min(got.size(), due.size()); i++) {
            Check.dueText("in README.md: " + calls.get(i), got.get(i), due.get(i));
        }
    }

    private void take(String line) {
        Matcher answered = ANSWERED.matcher(line);
        if (line.isBlank() || line.strip().startsWith("//") || !line.contains("//")) {
            body.append(line).append('\n');
        } else if (answered.matches()) {
            calls.add(answered.group(1));
            due.add(answered.group(2));
            body.append("try { answers.add(String.valueOf(").append(answered.group(1)).append(")); }\n")
                    .append("catch (RuntimeException e) {")
                    .append("answers.add(\"throws \" + e.getClass().getSimpleName()); }\n");
        } else {
            Check.fail("no answer that can be read in README.md: " + line);
        }
    }

    /** Compiles the example as a class of its own, and runs it. */
    private List<String> answers() throws Exception {
        Path directory = Files.createTempDirectory("readme");
        Path source = directory.resolve("ReadmeExample.java");
        try {
            Files.writeString(source, "public final class ReadmeExample {\n"
                    + "public static void run(java.util.List<String> answers) {\n" + body + "}\n}\n");
            JavaCompiler compiler = ToolProvider.getSystemJavaCompiler();
            int exit = compiler.run(null, System.out, System.out, "-d", directory.toString(),
                    "-cp", System.getProperty("java.class.path"), source.toString());
            Check.due("the example compiles", exit, 0);
            return exit == 0 ? run(directory) : List.of();
        } finally {
            delete(directory);
        }
    }

    private static List<String> run(Path directory) throws Exception {
        List<String> answers = new ArrayList<>();
        URL[] places = {directory.toUri().toURL()};
        try (URLClassLoader loader = new URLClassLoader(places)) {
            loader.loadClass("ReadmeExample").getMethod("run", List.class).invoke(null, answers);
        }
        return answers;
    }

    private static void delete(Path directory) throws IOException {
        for (String name : new String[] {"ReadmeExample.java", "ReadmeExample.class"}) {
            Files.deleteIfExists(directory.resolve(name));
        }
        Files.deleteIfExists(directory);
    }

    // ---- what must be named

    private static void namesAllCalls(String readme) {
        for (String method : Face.METHODS) {
            String named = "`" + method.replaceAll(" throws .*", "")
                    .replaceAll("(int|boolean|double|long) ", "") + "`";
            Check.due("README.md names " + named, readme.contains(named) ? 1 : 0, 1);
        }
    }

    private static void namesAllTests(String readme) {
        String[] listed = TESTS.toFile().list();
        List<String> files = listed == null ? List.of() : List.of(listed);
        Check.due("there are tests", files.isEmpty() ? 0 : 1, 1);
        for (String file : files) {
            String named = "`" + file.replace(".java", "") + "`";
            Check.due("README.md names " + named, readme.contains(named) ? 1 : 0, 1);
        }
        Pattern test = Pattern.compile("`(\\w+(?:Test|Sentences))`");
        for (Matcher named = test.matcher(readme); named.find();) {
            Check.due(named.group(1) + " is there",
                    files.contains(named.group(1) + ".java") ? 1 : 0, 1);
        }
    }
}

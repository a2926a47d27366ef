import java.io.IOException;
import java.lang.invoke.MethodHandles;
import java.nio.file.Files;
import java.nio.file.Path;
import java.util.List;
import java.util.Set;
import java.util.TreeSet;
import java.util.regex.Matcher;
import java.util.regex.Pattern;
import java.util.stream.Stream;
import javax.tools.JavaCompiler;
import javax.tools.ToolProvider;

/** The examples of README.md answer what it says, and it names every test. */
public final class ReadmeTest {
    private static final Pattern CALL = Pattern.compile("(trials\\.(\\w+)\\(.*\\));\\s+// (-?\\w+):.*");

    private static final Set<String> called = new TreeSet<>();

    public static void main(String[] args) throws Exception {
        List<String> readme = Files.readAllLines(Path.of("README.md"));
        run(program(readme));
        // those that the examples show; a smaller number means that calls were not found
        Check.same("methods that the examples call", called.size(), 19);
        namesEachTest(String.join("\n", readme));
        Check.end();
    }

    /** Called by the examples with each answer that they tell. */
    static void due(String what, Check.Call call, String want) {
        String got;
        try {
            int answer = call.make();
            got = answer == DogTrials.NONE ? "NONE" : String.valueOf(answer);
        } catch (RuntimeException e) {
            got = e.getClass().getSimpleName();
        }
        Check.sameText("README.md, " + what, got, want);
    }

    /** All examples together, each call with an answer behind it made through due. */
    private static String program(List<String> readme) {
        StringBuilder lines = new StringBuilder();
        boolean inExample = false;
        for (String line : readme) {
            if (line.startsWith("```")) {
                inExample = line.equals("```java");
            } else if (inExample) {
                lines.append(statement(line)).append('\n');
            }
        }
        return "final class Example {\nstatic void all() {\n" + lines + "}\n}\n";
    }

    private static String statement(String line) {
        Matcher m = CALL.matcher(line);
        if (!m.matches()) {
            return line;
        }
        called.add(m.group(2));
        return "ReadmeTest.due(\"" + m.group(1) + "\", () -> " + m.group(1) + ", \"" + m.group(3) + "\");";
    }

    private static void run(String program) throws Exception {
        Path out = Files.createTempDirectory("readme");
        Path source = out.resolve("Example.java");
        Files.writeString(source, program);
        JavaCompiler compiler = ToolProvider.getSystemJavaCompiler();
        String classes = System.getProperty("java.class.path");
        int code = compiler.run(null, null, null, "-cp", classes, "-d", out.toString(), source.toString());
        Check.same("README.md, the examples compile", code, 0);
        if (code == 0) {
            byte[] example = Files.readAllBytes(out.resolve("Example.class"));
            MethodHandles.lookup().defineClass(example).getDeclaredMethod("all").invoke(null);
        }
        remove(out);
    }

    private static void remove(Path out) throws IOException {
        Files.deleteIfExists(out.resolve("Example.java"));
        Files.deleteIfExists(out.resolve("Example.class"));
        Files.deleteIfExists(out);
    }

    private static void namesEachTest(String readme) throws IOException {
        try (Stream<Path> files = Files.list(Path.of("src/test/java"))) {
            for (Path file : files.toList()) {
                String name = file.getFileName().toString().replace(".java", "");
                Check.same("README.md names " + name, readme.contains("`" + name + "`") ? 1 : 0, 1);
            }
        }
        Check.same("README.md tells .ci/run", readme.contains("\n.ci/run\n") ? 1 : 0, 1);
    }
}

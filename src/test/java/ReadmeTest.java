import java.io.IOException;
import java.net.URL;
import java.net.URLClassLoader;
import java.nio.file.Files;
import java.nio.file.Path;
import java.util.List;
import java.util.regex.Matcher;
import java.util.regex.Pattern;
import java.util.stream.Stream;
import javax.tools.ToolProvider;

/** That the answers in README.md's example are the class's, and that its tables leave nothing out. */
public final class ReadmeTest {
    private static final Pattern ANSWERED = Pattern.compile("(x\\..*); +// (-?\\d+|true|false|throws (\\w+))(, .*)?");
    private static final Due due = new Due();

    public static void main(String[] args) throws IOException, ReflectiveOperationException {
        String text = Files.readString(Path.of("README.md"));
        exampleHolds(text);
        everyCallIsTold(text);
        everyTestIsTold(text);
        due.end();
    }

    private static void exampleHolds(String text) throws IOException, ReflectiveOperationException {
        Matcher block = Pattern.compile("(?s)```java\n(.*?)```").matcher(text);
        due.is("there is an example", block.find(), true);
        int answers = 0;
        StringBuilder code = new StringBuilder("public final class Example {\n"
                + "public static String run() {\nStringBuilder wrong = new StringBuilder();\n");
        for (String line : block.group(1).split("\n")) {
            Matcher answered = ANSWERED.matcher(line);
            answers += answered.matches() ? 1 : 0;
            code.append(answered.matches() ? asked(answered) : line).append('\n');
        }
        code.append("return wrong.toString();\n}\n}\n");
        due.is("it tells answers", answers > 15, true);
        String wrong = ran(code.toString());
        due.is("the example's wrong answers: " + wrong, wrong.isEmpty(), true);
    }

    /** The line as code that takes down its own text if it does not answer what is told behind it. */
    private static String asked(Matcher line) {
        String tell = "wrong.append(\"" + line.group(1) + "; \");";
        if (line.group(3) != null) {
            return "try { " + line.group(1) + "; " + tell + " } catch (" + line.group(3) + " due) { }";
        }
        return "if (" + line.group(1) + " != " + line.group(2) + ") { " + tell + " }";
    }

    private static String ran(String code) throws IOException, ReflectiveOperationException {
        Path folder = Files.createTempDirectory("readme");
        Path source = Files.writeString(folder.resolve("Example.java"), code);
        int failed = ToolProvider.getSystemJavaCompiler().run(null, null, null, "-d", folder.toString(),
                "-cp", System.getProperty("java.class.path"), source.toString());
        String wrong = "it does not compile";
        if (failed == 0) {
            try (URLClassLoader loader = new URLClassLoader(new URL[] {folder.toUri().toURL()})) {
                wrong = (String) loader.loadClass("Example").getMethod("run").invoke(null);
            }
        }
        for (String name : List.of("Example.java", "Example.class", "")) {
            Files.deleteIfExists(folder.resolve(name));
        }
        return wrong;
    }

    /** A row for each call, with its parameters' names, and with its codes in the document's order. */
    private static void everyCallIsTold(String text) throws IOException {
        for (int promise = 2; promise <= 33; promise++) {
            Matcher call = Pattern.compile("`\\w+ (\\w+\\(.*?\\))").matcher(Edges.wordsOf(promise));
            due.is("promise " + promise + " has a call", call.find(), true);
            String names = call.group(1).replaceAll("\\b(int|long|boolean) ", "");
            String codes = String.join(", ", Edges.codesOf(promise));
            Pattern row = Pattern.compile("\\| `" + Pattern.quote(names) + "` \\| .+ \\| (" + codes + " )?\\|");
            boolean found = text.lines().anyMatch(line -> {
                Matcher fitting = row.matcher(line);
                return fitting.matches() && (fitting.group(1) == null) == codes.isEmpty();
            });
            due.is("README.md tells " + names + " with the codes " + codes, found, true);
        }
    }

    private static void everyTestIsTold(String text) throws IOException {
        try (Stream<Path> files = Files.list(Path.of("src/test/java"))) {
            for (Path file : files.toList()) {
                String name = file.getFileName().toString().replace(".java", "");
                if (name.endsWith("Test")) {
                    due.is("README.md tells of " + name, text.contains("\n| `" + name + "` |"), true);
                }
            }
        }
    }
}

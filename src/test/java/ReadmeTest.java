import java.io.IOException;
import java.net.URL;
import java.net.URLClassLoader;
import java.nio.file.Files;
import java.nio.file.Path;
import java.util.ArrayList;
import java.util.List;
import java.util.regex.Matcher;
import java.util.regex.Pattern;
import javax.tools.ToolProvider;

/** The README's example compiles, and each of its calls answers what the remark behind it tells. */
final class ReadmeTest {
    private static final Path README = Path.of("README.md");
    /** A statement, perhaps with a variable for its answer, and a remark that begins with the answer. */
    private static final Pattern ANSWERED =
        Pattern.compile("((?:int|long|boolean) (\\w+) = )?(.+); +// (-?\\d+|true|false)\\b.*");

    public static void main(String[] args) throws IOException, ReflectiveOperationException {
        StringBuilder body = new StringBuilder();
        List<String> calls = new ArrayList<>();
        List<String> due = new ArrayList<>();
        for (String line : exampleLines()) {
            Matcher answered = ANSWERED.matcher(line);
            if (answered.matches()) {
                calls.add(answered.group(3));
                due.add(answered.group(4));
                body.append(told(answered.group(1), answered.group(2), answered.group(3)));
            } else {
                body.append(line);
            }
            body.append('\n');
        }
        Check.same("the example tells answers", true, due.size() > 0);
        List<String> got = answersOf(body.toString());
        for (int i = 0; i < due.size(); i++) {
            Check.same("the README's " + calls.get(i), due.get(i), i < got.size() ? got.get(i) : "nothing");
        }
        Check.end("ReadmeTest");
    }

    /** What stands in the first block of Java. */
    private static List<String> exampleLines() throws IOException {
        List<String> lines = Files.readAllLines(README);
        int first = lines.indexOf("```java") + 1;
        int length = lines.subList(first, lines.size()).indexOf("```");
        Check.same("there is an example", true, first > 0 && length > 0);
        return lines.subList(first, first + Math.max(length, 0));
    }

    private static String told(String declaration, String variable, String call) {
        return declaration == null
            ? "told.add(String.valueOf(" + call + "));"
            : declaration + call + "; told.add(String.valueOf(" + variable + "));";
    }

    @SuppressWarnings("unchecked")
    private static List<String> answersOf(String body) throws IOException, ReflectiveOperationException {
        Path directory = Files.createTempDirectory("readme");
        Path source = directory.resolve("Example.java");
        Path compiled = directory.resolve("Example.class");
        Files.writeString(source, "public final class Example {\npublic static java.util.List<String> run() {\n"
            + "java.util.List<String> told = new java.util.ArrayList<>();\n" + body + "return told; } }\n");
        int failure = ToolProvider.getSystemJavaCompiler().run(null, null, null,
            "-cp", System.getProperty("java.class.path"), "-d", directory.toString(), source.toString());
        Check.same("the example compiles", 0, failure);
        List<String> answers = new ArrayList<>();
        if (failure == 0) {
            try (URLClassLoader loader = new URLClassLoader(new URL[] {directory.toUri().toURL()})) {
                answers.addAll((List<String>) loader.loadClass("Example").getMethod("run").invoke(null));
            }
        }
        Files.deleteIfExists(source);
        Files.deleteIfExists(compiled);
        Files.delete(directory);
        return answers;
    }
}

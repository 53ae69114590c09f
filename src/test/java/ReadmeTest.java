import java.io.IOException;
import java.net.URL;
import java.net.URLClassLoader;
import java.nio.file.Files;
import java.nio.file.Path;
import java.util.ArrayList;
import java.util.List;
import java.util.regex.Matcher;
import java.util.regex.Pattern;
import javax.tools.ToolProvider;

/** README.md: its example compiles, and each call answers the number that stands behind it. */
final class ReadmeTest {
    private static final Pattern ANSWER = Pattern.compile("(x\\.\\w+\\(.*\\)); +// (-?[0-9]+), .*");

    public static void main(String[] args) throws IOException, ReflectiveOperationException {
        List<String> example = example(Files.readAllLines(Path.of("README.md")));
        List<Integer> answers = answers(program(example));
        Check check = new Check();
        int n = 0;
        for (String line : example) {
            Matcher told = ANSWER.matcher(line);
            if (told.matches()) {
                check.due(told.group(1) + " of README.md", answers.get(n), Integer.parseInt(told.group(2)));
                n++;
            }
        }
        check.end();
    }

    private static List<String> example(List<String> readme) {
        List<String> rest = readme.subList(readme.indexOf("```java") + 1, readme.size());
        return rest.subList(0, rest.indexOf("```"));
    }

    /** The example as a class, with its answers put down one behind the other. */
    private static String program(List<String> example) {
        StringBuilder text = new StringBuilder("public final class Example {\n");
        text.append("public static void run(java.util.List<Integer> answers) {\n");
        for (String line : example) {
            text.append(ANSWER.matcher(line).replaceFirst("answers.add($1);")).append('\n');
        }
        return text.append("}\n}\n").toString();
    }

    private static List<Integer> answers(String program) throws IOException, ReflectiveOperationException {
        Path folder = Files.createTempDirectory("readme");
        Path source = folder.resolve("Example.java");
        try {
            Files.writeString(source, program);
            String classes = System.getProperty("java.class.path");
            ToolProvider.getSystemJavaCompiler().run(null, null, null, "-cp", classes, source.toString());
            return run(folder);
        } finally {
            Files.deleteIfExists(source);
            Files.deleteIfExists(folder.resolve("Example.class"));
            Files.delete(folder);
        }
    }

    private static List<Integer> run(Path folder) throws IOException, ReflectiveOperationException {
        List<Integer> answers = new ArrayList<>();
        try (URLClassLoader loader = new URLClassLoader(new URL[] {folder.toUri().toURL()})) {
            loader.loadClass("Example").getMethod("run", List.class).invoke(null, answers);
        }
        return answers;
    }
}

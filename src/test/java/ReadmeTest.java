import java.io.IOException;
import java.net.URL;
import java.net.URLClassLoader;
import java.nio.file.Files;
import java.nio.file.Path;
import java.util.ArrayList;
import java.util.List;
import java.util.regex.Matcher;
import java.util.regex.Pattern;
import javax.tools.ToolProvider;

/**
 * The examples of README.md: a call with a number in the comment behind it answers just that. It is to
 * be run in the project's directory.
 */
public final class ReadmeTest {
    private static final Pattern ANSWERED = Pattern.compile("(x\\.\\w+\\(.*\\));\\s+// (-?\\d+)\\b.*");

    private final StringBuilder code = new StringBuilder();
    private final List<String> calls = new ArrayList<>();
    private final List<Integer> due = new ArrayList<>();

    public static void main(String[] args) throws Exception {
        ReadmeTest test = new ReadmeTest();
        test.read();
        int[] answers = test.answers();
        Check.same("there are examples", test.calls.size() > 0, true);
        for (int i = 0; i < answers.length; i++) {
            Check.same("README.md: " + test.calls.get(i), answers[i], test.due.get(i));
        }
        Check.end();
    }

    /** Each example becomes a block by itself, in one method that answers what its calls answered. */
    private void read() throws IOException {
        boolean isExample = false;
        for (String line : Files.readAllLines(Path.of("README.md"))) {
            Matcher answered = ANSWERED.matcher(line);
            if (line.equals("```java")) {
                isExample = true;
                code.append("{\n");
            } else if (line.equals("```") && isExample) {
                isExample = false;
                code.append("}\n");
            } else if (isExample && answered.matches()) {
                code.append("answers[").append(calls.size()).append("] = ").append(answered.group(1)).append(";\n");
                calls.add(answered.group(1));
                due.add(Integer.parseInt(answered.group(2)));
            } else if (isExample) {
                code.append(line).append('\n');
            }
        }
    }

    private int[] answers() throws Exception {
        Path made = Files.createTempDirectory("readme");
        Path source = made.resolve("Examples.java");
        try {
            Files.writeString(source, "public class Examples {\npublic static void run(int[] answers) {\n" + code + "}\n}\n");
            int failed = ToolProvider.getSystemJavaCompiler().run(null, null, null, "-cp",
                    System.getProperty("java.class.path"), "-d", made.toString(), source.toString());
            Check.same("README.md: the examples compile", failed, 0);
            return failed == 0 ? run(made) : new int[0];
        } finally {
            Files.deleteIfExists(made.resolve("Examples.class"));
            Files.deleteIfExists(source);
            Files.delete(made);
        }
    }

    private int[] run(Path made) throws Exception {
        int[] answers = new int[calls.size()];
        try (URLClassLoader loader = new URLClassLoader(new URL[] {made.toUri().toURL()})) {
            loader.loadClass("Examples").getMethod("run", int[].class).invoke(null, answers);
        }
        return answers;
    }
}

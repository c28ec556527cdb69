import java.io.IOException;
import java.net.URI;
import java.net.URL;
import java.net.URLClassLoader;
import java.nio.file.DirectoryStream;
import java.nio.file.Files;
import java.nio.file.Path;
import java.util.ArrayList;
import java.util.List;
import java.util.regex.Matcher;
import java.util.regex.Pattern;
import javax.tools.JavaFileObject;
import javax.tools.SimpleJavaFileObject;
import javax.tools.ToolProvider;

/** That the calls in README.md answer what stands behind them there, and that it names every test. */
public final class ReadmeTest {
    private static final Path README = Path.of("README.md");
    private static final Path TESTS = Path.of("src/test/java");
    private static final String CLASS = "ReadmeExample";
    // A call, and the number that begins the comment behind it.
    private static final Pattern ANSWERED = Pattern.compile("\\s*(\\w+\\..*\\));\\s*// (-?\\d+)\\b.*");

    private final List<String> calls = new ArrayList<>();
    private final List<String> due = new ArrayList<>();
    private final StringBuilder body = new StringBuilder();

    public static void main(String[] args) throws IOException, ReflectiveOperationException {
        String readme = Files.readString(README);
        new ReadmeTest().exampleAnswers(readme.split("```java\n|```\n")[1]);
        everyTestIsNamed(readme);
        Check.end("ReadmeTest");
    }

    private void exampleAnswers(String example) throws IOException, ReflectiveOperationException {
        for (String line : example.split("\n")) {
            Matcher answered = ANSWERED.matcher(line);
            if (answered.matches()) {
                calls.add(answered.group(1));
                due.add(answered.group(2));
                body.append("answers.append(").append(answered.group(1)).append(").append(' ');\n");
            } else {
                body.append(line).append('\n');
            }
        }
        Check.same("the example has answers", calls.size() >= 8, true);
        String[] answers = answers().trim().split(" ");
        Check.same("answers of the example", answers.length, due.size());
        for (int call = 0; call < due.size() && call < answers.length; call++) {
            Check.same("README.md: " + calls.get(call), answers[call], due.get(call));
        }
    }

    private String answers() throws IOException, ReflectiveOperationException {
        Path made = Files.createTempDirectory("readme");
        String text = "public final class " + CLASS + " { public static String answers() {\n"
                + "StringBuilder answers = new StringBuilder();\n" + body + "return answers.toString(); } }";
        if (!compile(text, made)) {
            return "";
        }
        String told;
        try (URLClassLoader loader = new URLClassLoader(new URL[] {made.toUri().toURL()})) {
            told = (String) loader.loadClass(CLASS).getMethod("answers").invoke(null);
        }
        Files.delete(made.resolve(CLASS + ".class"));
        Files.delete(made);
        return told;
    }

    private static boolean compile(String text, Path into) {
        SimpleJavaFileObject source = new SimpleJavaFileObject(
                URI.create("string:///" + CLASS + ".java"), JavaFileObject.Kind.SOURCE) {
            @Override
            public CharSequence getCharContent(boolean ignoreErrors) {
                return text;
            }
        };
        List<String> options = List.of("-d", into.toString(), "-cp", System.getProperty("java.class.path"));
        return ToolProvider.getSystemJavaCompiler().getTask(null, null, null, options, null, List.of(source)).call();
    }

    private static void everyTestIsNamed(String readme) throws IOException {
        try (DirectoryStream<Path> files = Files.newDirectoryStream(TESTS, "*Test.java")) {
            for (Path file : files) {
                String test = file.getFileName().toString().replace(".java", "");
                Check.same("README.md names " + test, readme.contains("| `" + test + "` |"), true);
            }
        }
    }
}

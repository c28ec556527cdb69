import java.io.IOException;
import java.io.OutputStream;
import java.io.PrintStream;
import java.lang.reflect.Method;
import java.net.URI;
import java.net.URL;
import java.net.URLClassLoader;
import java.nio.file.DirectoryStream;
import java.nio.file.Files;
import java.nio.file.Path;
import java.util.ArrayList;
import java.util.Collection;
import java.util.LinkedHashMap;
import java.util.List;
import java.util.Map;
import java.util.TreeSet;
import java.util.regex.Matcher;
import java.util.regex.Pattern;
import javax.tools.JavaCompiler;
import javax.tools.SimpleJavaFileObject;
import javax.tools.ToolProvider;

/**
 * No test, but one of the tests: puts one small fault after the other into the program, and tells which faults no test of
 * a sentence finds, and which tests find no fault. Takes the program's file and the directory of the compiled tests.
 */
public final class Faults {
    private static final String[] TESTS = {
        "KeysEdgesTest", "SplitsEdgesTest", "TakingOutEdgesTest", "PagesEdgesTest", "CursorsEdgesTest",
    };
    // What is looked for, and what is put in its place.
    private static final String[][] SWAPS = {
        {" < ", " <= "}, {" <= ", " < "}, {" > ", " >= "}, {" >= ", " > "}, {" == ", " != "}, {" != ", " == "},
        {" && ", " || "}, {" \\|\\| ", " && "}, {" \\+ ", " - "}, {" - ", " + "}, {" \\+ 1\\b", ""}, {" - 1\\b", ""},
        {"(?<=[ (])0(?=[;,)])", "1"}, {"(?<=[ (])1(?=[;,)])", "2"}, {"(?<= = )\\d+(?=;)", "9"},
        {"(?<= = )(?:[1-9]\\d*|KEYS)(?=;)", "3"}, {"\\bif \\(", "if (true || "}, {"\\bif \\(", "if (false && "},
        {"(?<=return )(?!null)[^;\"]+(?=;)", "NONE"}, {"(?<=return )\\w+(?=;)", "0"}, {"\\bKEYS\\b(?! =)", "100"},
        {"\\bnull;", "firstLeaf;"}, {"(?<=\\bremove\\()0\\b", "splitsToPost.size() - 1"}, {"\\bpage\\.right\\b", "null"},
        {"(?m)^ +[\\w.]+(?:\\[\\w+\\])? = [^;]+;$", ";"}, {"(?m)^ +[\\w.]+\\([^;{]*\\);$", ";"},
        {"(?m)^ +[\\w.]+(?:\\+\\+|--);$", ";"}, {"(?m)^ +(?:break|continue);$", ";"}, {"\\+\\+;", "--;"}, {"--;", "++;"},
        {"IllegalArgumentException\\(", "IllegalStateException("}, {"IllegalStateException\\(", "IllegalArgumentException("},
        {"IndexOutOfBoundsException\\(", "ArrayIndexOutOfBoundsException("}, {"(?<=return )true(?=;)", "false"},
        {"(?<=return )false(?=;)", "true"}, {"!(?=[\\w])", ""},
    };
    private static final long MOST_MILLISECONDS = 10000;
    private static final PrintStream TOLD = System.out;

    private final Path classes;
    private final String program;
    private final Map<String, Integer> foundBy = new LinkedHashMap<>();
    private int faults;
    private int found;

    private Faults(Path program, Path classes) throws IOException {
        this.program = Files.readString(program);
        this.classes = classes;
    }

    public static void main(String[] args) throws Exception {
        Faults faults = new Faults(Path.of(args[0]), Path.of(args[1]));
        // What the tests say of a broken program is not wanted.
        System.setOut(new PrintStream(OutputStream.nullOutputStream()));
        for (String[] swap : SWAPS) {
            faults.tryEverywhere(swap[0], swap[1]);
        }
        faults.end();
        System.exit(0);
    }

    private void tryEverywhere(String looked, String put) throws Exception {
        Matcher place = Pattern.compile(looked).matcher(program);
        while (place.find()) {
            String line = lineAt(place.start());
            boolean comment = line.startsWith("//") || line.startsWith("/*") || line.startsWith("import");
            if (!comment && !place.group().equals(put)) {
                tryOne(place, put);
            }
        }
    }

    private String lineAt(int position) {
        // A place may begin with the spaces of its line.
        int inside = position;
        while (program.charAt(inside) == ' ') {
            inside++;
        }
        int begin = program.lastIndexOf('\n', inside) + 1;
        return program.substring(begin, program.indexOf('\n', inside)).trim();
    }

    private void tryOne(Matcher place, String put) throws Exception {
        Path made = Files.createTempDirectory("fault");
        String broken = program.substring(0, place.start()) + put + program.substring(place.end());
        if (compile(broken, made)) {
            faults++;
            Collection<String> finders = finders(made);
            if (finders.isEmpty()) {
                int line = program.substring(0, place.start()).split("\n", -1).length;
                TOLD.println("not found: '" + place.group().trim() + "' to '" + put.trim() + "' in line " + line
                        + ": " + lineAt(place.start()));
            } else {
                found++;
            }
            for (String finder : finders) {
                foundBy.merge(finder, 1, Integer::sum);
            }
        }
        remove(made);
    }

    private static void remove(Path directory) throws IOException {
        try (DirectoryStream<Path> files = Files.newDirectoryStream(directory)) {
            for (Path file : files) {
                Files.delete(file);
            }
        }
        Files.delete(directory);
    }

    private static boolean compile(String text, Path into) {
        JavaCompiler compiler = ToolProvider.getSystemJavaCompiler();
        SimpleJavaFileObject source = new SimpleJavaFileObject(
                URI.create("string:///Highkey.java"), javax.tools.JavaFileObject.Kind.SOURCE) {
            @Override
            public CharSequence getCharContent(boolean ignoreErrors) {
                return text;
            }
        };
        List<String> options = List.of("-d", into.toString());
        return compiler.getTask(null, null, told -> { }, options, null, List.of(source)).call();
    }

    /** The tests that find the fault; all that come behind one that does not end are left out. */
    private Collection<String> finders(Path broken) throws Exception {
        URL[] places = {broken.toUri().toURL(), classes.toUri().toURL()};
        try (URLClassLoader loader = new URLClassLoader(places, ClassLoader.getPlatformClassLoader())) {
            Collection<String> sofar = new TreeSet<>();
            Thread thread = new Thread(() -> collect(loader, sofar));
            thread.setDaemon(true);
            thread.start();
            thread.join(MOST_MILLISECONDS);
            // It may go on for ever.
            synchronized (sofar) {
                return new TreeSet<>(sofar);
            }
        }
    }

    private void collect(ClassLoader loader, Collection<String> finders) {
        try {
            Class<?> sentences = loader.loadClass("Sentences");
            Method testsOf = sentences.getDeclaredMethod("testsOf", Class.class);
            Method holds = sentences.getDeclaredMethod("holds", Method.class);
            testsOf.setAccessible(true);
            holds.setAccessible(true);
            for (String name : TESTS) {
                for (Object test : (List<?>) testsOf.invoke(null, loader.loadClass(name))) {
                    String told = name + "." + ((Method) test).getName();
                    synchronized (finders) {
                        foundBy.putIfAbsent(told, 0);
                        // Found by not ending, if it does not come back.
                        finders.add(told);
                    }
                    if ((Boolean) holds.invoke(null, test)) {
                        synchronized (finders) {
                            finders.remove(told);
                        }
                    }
                }
            }
        } catch (ReflectiveOperationException e) {
            throw new IllegalStateException(e);
        }
    }

    private void end() {
        for (Map.Entry<String, Integer> test : foundBy.entrySet()) {
            if (test.getValue() == 0) {
                TOLD.println("finds no fault: " + test.getKey());
            }
        }
        TOLD.println(faults + " faults, " + found + " found, by " + foundBy.size() + " tests");
    }
}

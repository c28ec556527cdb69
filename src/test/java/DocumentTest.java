import java.io.IOException;
import java.lang.reflect.Method;
import java.nio.file.Files;
import java.nio.file.Path;
import java.util.ArrayList;
import java.util.List;
import java.util.Set;
import java.util.TreeMap;

/**
 * That the tests of sentences quote the document word by word, and that each clause of its opening, of its terms and of its
 * promises is quoted by at least one of them.
 */
public final class DocumentTest {
    private static final Path DOCUMENT = Path.of("../shared/DOC.md");
    private static final Class<?>[] TESTS = {
        KeysEdgesTest.class, SplitsEdgesTest.class, TakingOutEdgesTest.class, PagesEdgesTest.class, CursorsEdgesTest.class,
    };
    // Clauses that only lead to others: the calls in a row, what a number stands for.
    private static final Set<String> WITHOUT_A_TEST = Set.of(
            "The calls put keys in and take them out, post splits, take empty leaves out, open cursors and let them walk, "
                    + "and ask for pages and links");

    private final TreeMap<Integer, String> promises = new TreeMap<>();
    private String opening = "";
    private String terms = "";

    public static void main(String[] args) throws IOException {
        DocumentTest test = new DocumentTest();
        test.read(Files.readString(DOCUMENT));
        test.quotesStandInTheDocument();
        test.clausesAreQuoted();
        Check.end("DocumentTest");
    }

    private void read(String document) {
        for (String section : document.split("\n## ")) {
            int end = section.indexOf('\n');
            String title = section.substring(0, end);
            String text = section.substring(end + 1).replaceAll("\\s+", " ");
            if (title.equals("What it is")) {
                opening = text;
            } else if (title.equals("Terms")) {
                terms = text;
            } else if (title.startsWith("Promise ")) {
                promises.put(Integer.parseInt(title.replaceAll("Promise (\\d+):.*", "$1")), text);
            }
        }
        Check.same("promises of the document", promises.size(), 26);
    }

    private void quotesStandInTheDocument() {
        for (Class<?> tests : TESTS) {
            for (Method test : Sentences.testsOf(tests)) {
                Says says = test.getAnnotation(Says.class);
                String around = opening + " " + terms + " " + promises.getOrDefault(says.promise(), "");
                Check.same(test.getName() + " quotes " + Sentences.quoted(test), around.contains(says.sentence()), true);
            }
        }
    }

    private void clausesAreQuoted() {
        // The opening is one long sentence.
        for (String clause : clausesOf(opening.replaceAll("[:,] ", ". "))) {
            Check.same("a test of the opening: " + clause, isQuoted(0, clause), true);
        }
        for (String clause : clausesOf(terms)) {
            boolean named = WITHOUT_A_TEST.contains(clause) || clause.contains(" the interface says");
            Check.same("a test of the terms: " + clause, named || isQuoted(0, clause), true);
        }
        for (int promise : promises.keySet()) {
            for (String clause : clausesOf(withoutHead(promises.get(promise)))) {
                Check.same("a test of promise " + promise + ": " + clause, isQuoted(promise, clause), true);
            }
        }
    }

    /** What stands behind the method's signature. */
    private static String withoutHead(String section) {
        return section.substring(section.indexOf("`: ") + 3);
    }

    private static List<String> clausesOf(String text) {
        List<String> clauses = new ArrayList<>();
        for (String clause : text.replaceAll(" - `", ". - `").replaceAll(" (Returns|Throws) ", ". $1 ").split("[.;]( |$)")) {
            String bare = clause.replaceAll("[.;]+$", "").trim();
            // A word or two in front of a paragraph, as "Finding", name it.
            if (bare.split(" ").length > 2) {
                clauses.add(bare);
            }
        }
        return clauses;
    }

    /** By a test of that promise; by one of any promise for 0. */
    private static boolean isQuoted(int promise, String clause) {
        for (Class<?> tests : TESTS) {
            for (Method test : Sentences.testsOf(tests)) {
                Says says = test.getAnnotation(Says.class);
                if ((promise == 0 || says.promise() == promise) && says.sentence().contains(clause)) {
                    return true;
                }
            }
        }
        return false;
    }
}

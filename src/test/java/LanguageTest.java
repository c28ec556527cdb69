import java.io.IOException;
import java.nio.file.Files;
import java.nio.file.Path;
import java.util.Set;
import java.util.TreeSet;
import java.util.regex.Matcher;
import java.util.regex.Pattern;

/** The rules of LANGUAGE.md that can be read off the text of the program. Takes the file's name. */
public final class LanguageTest {
    private static final String[] NOT_THERE = {
        "\\bpackage\\b", "->", "::", "\\bfinally\\b", "\\bcatch\\b", "\\bsynchronized\\b", "\\bassert\\b",
        "\\binstanceof\\b", "\\bThread\\b", "\\bSystem\\b", "\\bRandom\\b", "\\bObject\\b", "\\bprotected\\b",
        "\\bstatic\\s*\\{", "\\.equals\\(", "\\.hashCode\\(", "\\.toString\\(", "Exact\\(", "\\bvar\\b", "\\bnative\\b",
        "\\bthrow\\s+(?!new (IllegalArgument|IllegalState|IndexOutOfBounds)Exception\\(\"[^\"]*\"\\);)",
    };
    private static final Set<String> CLASSES = Set.of(
            "Highkey", "Page", "Cursor", "ArrayList", "IllegalArgumentException", "IllegalStateException",
            "IndexOutOfBoundsException");

    public static void main(String[] args) throws IOException {
        String text = Files.readString(Path.of(args[0]));
        String code = text.replaceAll("(?s)/\\*.*?\\*/", " ").replaceAll("//[^\n]*", " ");
        for (String part : NOT_THERE) {
            Check.same("found " + part, Pattern.compile(part).matcher(code).find(), false);
        }
        Set<String> imports = new TreeSet<>();
        Matcher matcher = Pattern.compile("import ([^;]+);").matcher(code);
        while (matcher.find()) {
            imports.add(matcher.group(1));
        }
        Check.same("imports", Set.of("java.util.ArrayList").containsAll(imports), true);
        Check.same("classes", namesOfClasses(code), new TreeSet<>(CLASSES));
        Check.same("only signs 1 to 127", text.chars().allMatch(sign -> sign >= 1 && sign <= 127), true);
        methodsAreShort(code);
        Check.end("LanguageTest");
    }

    /** Its own ones and those of the library, which alone begin with a large letter that a small one follows. */
    private static Set<String> namesOfClasses(String code) {
        Set<String> names = new TreeSet<>();
        Matcher matcher = Pattern.compile("\\b[A-Z][a-z]\\w*").matcher(code.replaceAll("\"[^\"]*\"", ""));
        while (matcher.find()) {
            names.add(matcher.group());
        }
        return names;
    }

    private static void methodsAreShort(String code) {
        int depth = 0;
        int start = 0;
        String[] lines = code.split("\n");
        for (int line = 0; line < lines.length; line++) {
            boolean opens = lines[line].matches("\\s+[^=;]*\\)[^;]*\\{\\s*") && !lines[line].matches("\\s*(if|for|while|\\}).*");
            if (opens) {
                start = line;
                depth = lines[line].indexOf(lines[line].trim());
            }
            if (lines[line].trim().equals("}") && lines[line].indexOf('}') == depth) {
                Check.same("a method of over 60 lines from line " + (start + 1), line - start > 60, false);
            }
        }
    }
}

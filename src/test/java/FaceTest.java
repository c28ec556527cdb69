import java.io.IOException;
import java.lang.reflect.Constructor;
import java.lang.reflect.Field;
import java.lang.reflect.Method;
import java.lang.reflect.Modifier;
import java.nio.file.Files;
import java.nio.file.Path;
import java.util.Set;
import java.util.TreeSet;

/** The public face of the document, and that a call that throws changes nothing. Takes the program's file. */
public final class FaceTest {
    private static final String[] FACE = {
        "close(int)", "below(int,int)", "dead()", "epoch()", "get(int)", "getByLeaves(int)", "high(int)",
        "keyAt(int,int)", "keys()", "leafOf(int)", "level(int)", "links(int)", "next(int)", "open(int)", "pages()",
        "post()", "postAll()", "put(int,int)", "recycle()", "right(int)", "root()", "size(int)", "take(int)",
        "takeOut()", "waiting()",
    };
    private static final int[] WRONG_NUMBERS = {Integer.MIN_VALUE, -1, 200, 10000, Integer.MAX_VALUE};

    public static void main(String[] args) throws ReflectiveOperationException, IOException {
        asTheDocumentWritesIt(Files.readString(Path.of(args[0])));
        methods();
        restOfTheFace();
        wrongCallsChangeNothing();
        Check.end("FaceTest");
    }

    /** Word by word, with what a method throws and how its arguments are called. */
    private static void asTheDocumentWritesIt(String program) throws IOException {
        String document = Files.readString(Path.of("../shared/DOC.md"));
        String face = document.split("```")[1];
        Set<String> due = publicLines(face);
        Check.same("lines of the document's face", due.size(), 28);
        Check.same("the face", publicLines(program), due);
    }

    private static Set<String> publicLines(String text) {
        Set<String> lines = new TreeSet<>();
        for (String line : text.split("\n")) {
            if (line.trim().startsWith("public ")) {
                lines.add(line.trim().replaceAll(" ?[{;]$", ""));
            }
        }
        return lines;
    }

    private static String signature(Method method) {
        String name = method.toString();
        return name.substring(name.indexOf("Highkey.") + 8, name.indexOf(')') + 1);
    }

    private static void methods() {
        Set<String> open = new TreeSet<>();
        Set<String> openNames = new TreeSet<>();
        for (Method method : Highkey.class.getDeclaredMethods()) {
            if (!Modifier.isPrivate(method.getModifiers())) {
                open.add(signature(method));
                openNames.add(method.getName());
                Check.same(method + " is public", Modifier.toString(method.getModifiers()), "public");
                Check.same(method + " answers an int", method.getReturnType(), int.class);
            }
        }
        Check.same("the methods", open, new TreeSet<>(Set.of(FACE)));
        for (Class<?> inside : Highkey.class.getDeclaredClasses()) {
            Check.same(inside + " is static", Modifier.isStatic(inside.getModifiers()), true);
            Check.same(inside + " is public", Modifier.isPublic(inside.getModifiers()), false);
        }
        for (Method method : Highkey.class.getDeclaredMethods()) {
            boolean bears = Modifier.isPrivate(method.getModifiers()) && openNames.contains(method.getName());
            Check.same(method + " bears the name of a public one", bears, false);
        }
    }

    private static void restOfTheFace() throws ReflectiveOperationException {
        Check.same("the class", Modifier.toString(Highkey.class.getModifiers()), "public final");
        Set<String> openFields = new TreeSet<>();
        for (Field field : Highkey.class.getDeclaredFields()) {
            if (!Modifier.isPrivate(field.getModifiers())) {
                openFields.add(field.toString());
            }
        }
        Check.same("the constants", openFields, Set.of("public static final int Highkey.NONE"));
        Check.same("NONE", Highkey.class.getField("NONE").getInt(null), -1);
        Constructor<?>[] constructors = Highkey.class.getDeclaredConstructors();
        Check.same("one constructor", constructors.length, 1);
        Check.same("the constructor", constructors[0].toString(), "public Highkey()");
    }

    /** Tries one method with every pair of numbers; only such calls are made as the document answers with an exception. */
    private static void wrongCallsChangeNothing() throws ReflectiveOperationException {
        Highkey tree = Check.tree(0, 10);
        tree.post();
        tree.open(3);
        tree.open(5);
        tree.close(0);
        String before = Check.state(tree);
        for (Method method : Highkey.class.getDeclaredMethods()) {
            if (!Modifier.isPublic(method.getModifiers()) || method.getParameterCount() == 0) {
                continue;
            }
            for (int number : WRONG_NUMBERS) {
                Object[] numbers = method.getParameterCount() == 1 ? new Object[] {number} : new Object[] {number, number};
                Object thrown = "nothing";
                try {
                    method.invoke(tree, numbers);
                } catch (java.lang.reflect.InvocationTargetException e) {
                    thrown = e.getCause().getClass();
                }
                boolean byKey = Set.of("put", "take", "get", "getByLeaves", "links", "open").contains(method.getName());
                Object due = byKey ? IllegalArgumentException.class : IndexOutOfBoundsException.class;
                Check.same(method.getName() + " with " + number + " throws", thrown, due);
            }
        }
        Check.same("the state behind wrong calls", Check.state(tree), before);
        Check.same("the cursor behind wrong calls", tree.next(1), 5);
    }
}

import java.lang.reflect.InvocationTargetException;
import java.lang.reflect.Method;
import java.util.ArrayList;
import java.util.Comparator;
import java.util.List;

/** Runs tests of which each holds the class to one sentence of the document. */
final class Sentences {
    private Sentences() {
    }

    static List<Method> testsOf(Class<?> tests) {
        List<Method> found = new ArrayList<>();
        for (Method method : tests.getDeclaredMethods()) {
            if (method.isAnnotationPresent(Says.class)) {
                method.setAccessible(true);
                found.add(method);
            }
        }
        // The machine tells methods in no order of its own.
        found.sort(Comparator.comparing(Method::getName));
        return found;
    }

    static void run(Class<?> tests) {
        for (Method test : testsOf(tests)) {
            if (!holds(test)) {
                System.out.println("    by " + tests.getName() + "." + test.getName() + ", " + quoted(test));
            }
        }
        Check.end(tests.getName());
    }

    static String quoted(Method test) {
        Says says = test.getAnnotation(Says.class);
        return "promise " + says.promise() + ": \"" + says.sentence() + "\"";
    }

    /** A test that checks nothing holds nothing. */
    static boolean holds(Method test) {
        int checkedBefore = Check.checked();
        int wrongBefore = Check.wrong();
        Object thrown = "nothing";
        try {
            test.invoke(null);
        } catch (InvocationTargetException e) {
            thrown = e.getCause();
        } catch (IllegalAccessException e) {
            thrown = e;
        }
        Check.same("it has checks", Check.checked() > checkedBefore, true);
        Check.same("a call that must not throw", thrown, "nothing");
        return Check.wrong() == wrongBefore;
    }
}

import java.util.function.IntConsumer;
import java.util.function.Supplier;

/** What the tests share: comparing answers, counting the wrong ones, and trees to begin with. */
final class Check {
    static final int[] NO_KEYS = {-1, 200, Integer.MIN_VALUE, Integer.MAX_VALUE};
    // More than a page has, so that a page which never answers NONE is told, too.
    private static final int MOST_PLACES = 8;

    private static int checked = 0;
    private static int wrong = 0;

    private Check() {
    }

    static int checked() {
        return checked;
    }

    static int wrong() {
        return wrong;
    }

    static void same(String what, Object got, Object want) {
        checked++;
        if (!got.equals(want)) {
            wrong++;
            System.out.println(what + " answered " + got + ", due is " + want);
        }
    }

    /** The exception must be the one that is due, not one of a class below it that the machine throws. */
    static void fails(String what, Class<? extends RuntimeException> want, Runnable call) {
        Object got = "nothing";
        try {
            call.run();
        } catch (RuntimeException e) {
            got = e.getClass();
        }
        same(what + " throws", got, want);
    }

    static void noKey(String what, Runnable call) {
        fails(what, IllegalArgumentException.class, call);
    }

    /** The nearest keys below 0 and above 199, and the farthest ones. */
    static void noKeys(String what, IntConsumer call) {
        for (int key : NO_KEYS) {
            noKey(what + " " + key, () -> call.accept(key));
        }
    }

    static void noSuch(String what, Runnable call) {
        fails(what, IndexOutOfBoundsException.class, call);
    }

    static void noneWaits(String what, Runnable call) {
        fails(what, IllegalStateException.class, call);
    }

    /** A tree with the keys from, from + 1, .. to, each with ten times itself as its value. */
    static Highkey tree(int from, int to) {
        Highkey tree = new Highkey();
        putRange(tree, from, to);
        return tree;
    }

    static void putRange(Highkey tree, int from, int to) {
        for (int key = from; key <= to; key++) {
            tree.put(key, 10 * key);
        }
    }

    static void takeRange(Highkey tree, int from, int to) {
        for (int key = from; key <= to; key++) {
            tree.take(key);
        }
    }

    /** The keys of a page, or of its entries, as a text. */
    static String keysOf(Highkey tree, int page) {
        StringBuilder text = new StringBuilder();
        for (int place = 0; place < MOST_PLACES && tree.keyAt(page, place) != Highkey.NONE; place++) {
            text.append(place == 0 ? "" : " ").append(tree.keyAt(page, place));
        }
        return text.toString();
    }

    /** The pages of the entries of a page, as a text. */
    static String pagesOf(Highkey tree, int page) {
        StringBuilder text = new StringBuilder();
        for (int place = 0; place < MOST_PLACES && tree.below(page, place) != Highkey.NONE; place++) {
            text.append(place == 0 ? "" : " ").append(tree.below(page, place));
        }
        return text.toString();
    }

    /** All that can be asked without changing it, but for what a cursor found last. */
    static String state(Highkey tree) {
        StringBuilder text = new StringBuilder();
        text.append(tree.keys()).append(' ').append(tree.waiting()).append(' ').append(tree.dead()).append(' ');
        text.append(tree.epoch()).append(' ').append(tree.pages()).append(' ').append(tree.root()).append('\n');
        int found = 0;
        for (int page = 0; found < tree.pages() && page < 600; page++) {
            String told = pageState(tree, page);
            found += told.equals("none") ? 0 : 1;
            text.append(page).append(": ").append(told).append('\n');
        }
        for (int cursor = 0; cursor < 3; cursor++) {
            int asked = cursor;
            text.append(orNone(() -> "" + tree.leafOf(asked))).append(' ');
        }
        return text.toString();
    }

    private static String pageState(Highkey tree, int page) {
        return orNone(() -> tree.level(page) + " " + tree.high(page) + " " + tree.right(page) + " " + tree.size(page)
                + " " + valuesOf(tree, page) + " " + pagesOf(tree, page));
    }

    private static String valuesOf(Highkey tree, int page) {
        StringBuilder text = new StringBuilder();
        for (int place = 0; place < tree.size(page); place++) {
            int key = tree.keyAt(page, place);
            text.append(key).append(tree.level(page) == 0 ? "=" + tree.get(key) : "").append(' ');
        }
        return text.toString();
    }

    private static String orNone(Supplier<String> asked) {
        try {
            return asked.get();
        } catch (IndexOutOfBoundsException e) {
            return "none";
        }
    }

    static void end(String test) {
        System.out.println(test + ": " + checked + " checked, " + wrong + " wrong");
        if (wrong != 0) {
            System.exit(1);
        }
    }
}

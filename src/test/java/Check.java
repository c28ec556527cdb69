/** What the tests share: comparing answers, counting the wrong ones, and trees to begin with. */
final class Check {
    private static int checked = 0;
    private static int wrong = 0;

    private Check() {
    }

    static void same(String what, Object got, Object want) {
        checked++;
        if (!got.equals(want)) {
            wrong++;
            System.out.println(what + " answered " + got + ", due is " + want);
        }
    }

    /** The exception must be the one that is due, not one of a class below it that the machine throws. */
    static void fails(String what, Class<? extends RuntimeException> want, Runnable call) {
        Object got = "nothing";
        try {
            call.run();
        } catch (RuntimeException e) {
            got = e.getClass();
        }
        same(what + " throws", got, want);
    }

    static void noKey(String what, Runnable call) {
        fails(what, IllegalArgumentException.class, call);
    }

    static void noSuch(String what, Runnable call) {
        fails(what, IndexOutOfBoundsException.class, call);
    }

    /** A tree with the keys from, from + 1, .. to, each with ten times itself as its value. */
    static Highkey tree(int from, int to) {
        Highkey tree = new Highkey();
        putRange(tree, from, to);
        return tree;
    }

    static void putRange(Highkey tree, int from, int to) {
        for (int key = from; key <= to; key++) {
            tree.put(key, 10 * key);
        }
    }

    static void takeRange(Highkey tree, int from, int to) {
        for (int key = from; key <= to; key++) {
            tree.take(key);
        }
    }

    /** The keys of a page, or of its entries, as a text. */
    static String keysOf(Highkey tree, int page) {
        StringBuilder text = new StringBuilder();
        for (int place = 0; tree.keyAt(page, place) != Highkey.NONE; place++) {
            text.append(place == 0 ? "" : " ").append(tree.keyAt(page, place));
        }
        return text.toString();
    }

    /** The pages of the entries of a page, as a text. */
    static String pagesOf(Highkey tree, int page) {
        StringBuilder text = new StringBuilder();
        for (int place = 0; tree.below(page, place) != Highkey.NONE; place++) {
            text.append(place == 0 ? "" : " ").append(tree.below(page, place));
        }
        return text.toString();
    }

    static void end(String test) {
        System.out.println(test + ": " + checked + " checked, " + wrong + " wrong");
        if (wrong != 0) {
            System.exit(1);
        }
    }
}

/** Promises 23 to 26: cursors, and how they walk while keys come and go. */
public final class CursorsTest {
    private static final int NONE = Highkey.NONE;

    public static void main(String[] args) {
        open();
        next();
        nextWhileKeysComeAndGo();
        nextOverDeadLeaves();
        leafOf();
        close();
        noSuchCursor();
        Check.end("CursorsTest");
    }

    private static void open() {
        Highkey tree = Check.tree(0, 10);
        Check.noKey("23: key -1", () -> tree.open(-1));
        Check.noKey("23: key 200", () -> tree.open(200));
        for (int number = 0; number < 20; number++) {
            Check.same("23: number", tree.open(number * 10), number);
            if (number % 2 == 0) {
                tree.close(number);
            }
        }
        Check.fails("23: 20 were opened", IllegalStateException.class, () -> tree.open(0));
        Check.noKey("23: 20 were opened, key -1", () -> tree.open(-1));
        Check.noKey("23: 20 were opened, key 200", () -> tree.open(200));
        Check.same("23: the last one walks", tree.next(19), NONE);
        Check.same("23: open ones behind wrong calls", tree.close(19), 9);
        Check.fails("23: closed ones were opened, too", IllegalStateException.class, () -> tree.open(0));
    }

    private static void next() {
        Highkey tree = Check.tree(0, 30);
        tree.open(0);
        tree.open(10);
        tree.open(199);
        for (int key = 0; key <= 30; key++) {
            Check.same("24: from 0", tree.next(0), key);
        }
        Check.same("24: behind the last key", tree.next(0), NONE);
        Check.same("24: again", tree.next(0), NONE);
        for (int key = 10; key <= 30; key++) {
            Check.same("24: from 10", tree.next(1), key);
        }
        Check.same("24: from 199", tree.next(2), NONE);
        tree.put(199, 0);
        tree.put(31, 0);
        Check.same("24: 199 came", tree.next(2) + " " + tree.next(2), "199 -1");
        Check.same("24: keys that came behind", tree.next(0) + " " + tree.next(0) + " " + tree.next(0), "31 199 -1");
        Check.same("24: keys stay", tree.keys(), 33);
        Highkey empty = new Highkey();
        empty.open(0);
        Check.same("24: no key", empty.next(0), NONE);
        empty.put(0, 1);
        Check.same("24: the key for which it was opened", empty.next(0), 0);
    }

    private static void nextWhileKeysComeAndGo() {
        Highkey tree = Check.tree(10, 20);
        tree.open(15);
        Check.same("24: 15", tree.next(0), 15);
        tree.put(14, 0);
        tree.take(16);
        Check.same("24: 16 went, 14 is not greater", tree.next(0), 17);
        tree.put(16, 0);
        Check.same("24: 16 came too late", tree.next(0), 18);
        tree.postAll();
        tree.open(100);
        tree.put(150, 0);
        Check.same("24: a key between", tree.next(1), 150);
        tree.take(150);
        Check.same("24: its last key went", tree.next(1), NONE);
        for (int key = 100; key < 110; key++) {
            tree.put(key, 0);
        }
        Check.same("24: lower than its last key", tree.next(1), NONE);
        tree.put(151, 0);
        Check.same("24: greater, on a page that split off", tree.next(1), 151);
    }

    private static void nextOverDeadLeaves() {
        Highkey tree = Check.tree(0, 13);
        tree.postAll();
        tree.open(3);
        tree.open(0);
        Check.same("24: on leaf 1", tree.next(0) + " " + tree.leafOf(0), "3 1");
        Check.takeRange(tree, 3, 8);
        Check.same("10: two go", tree.takeOut() + " " + tree.takeOut(), "1 2");
        tree.put(7, 0);
        Check.same("25: a dead leaf", tree.leafOf(0), 1);
        Check.same("24: past two dead leaves, and past the 7", tree.next(0), 9);
        Check.same("25: behind them", tree.leafOf(0), 3);
        Check.same("24: the other one", tree.next(1) + " " + tree.next(1) + " " + tree.next(1) + " " + tree.next(1), "0 1 2 7");
        Check.same("25: on the leaf before", tree.leafOf(1), 0);
        tree.open(5);
        Check.same("25: opened then", tree.leafOf(2), 0);
    }

    private static void leafOf() {
        Highkey tree = Check.tree(0, 10);
        tree.open(0);
        tree.open(4);
        tree.open(199);
        Check.same("25: over links", tree.leafOf(0) + " " + tree.leafOf(1) + " " + tree.leafOf(2), "0 1 3");
        tree.next(0);
        tree.next(0);
        tree.next(0);
        Check.same("25: the last key of a leaf", tree.leafOf(0), 0);
        tree.next(0);
        Check.same("25: the next leaf", tree.leafOf(0), 1);
        tree.put(11, 0);
        tree.put(12, 0);
        tree.put(13, 0);
        Check.same("25: splits move no cursor", tree.leafOf(2), 3);
        tree.open(199);
        Check.same("25: the leaf then", tree.leafOf(3), 4);
        Check.same("24: nothing is found", tree.next(2), NONE);
        Check.same("25: where there is no link any more", tree.leafOf(2), 4);
    }

    private static void close() {
        Highkey tree = Check.tree(0, 4);
        for (int number = 0; number < 4; number++) {
            tree.open(0);
        }
        Check.same("26: three stay", tree.close(1), 3);
        Check.same("26: two", tree.close(3), 2);
        Check.same("23: numbers go on", tree.open(4), 4);
        Check.same("26: the first", tree.close(0), 2);
        Check.same("26: the new one", tree.close(4), 1);
        Check.same("24: one is open still", tree.next(2), 0);
        Check.same("26: the last", tree.close(2), 0);
        Check.noSuch("26: twice", () -> tree.close(2));
    }

    private static void noSuchCursor() {
        Highkey tree = Check.tree(0, 4);
        tree.open(0);
        tree.open(0);
        tree.close(0);
        for (int cursor : new int[] {0, 2, 19, 20, -1, Integer.MIN_VALUE, Integer.MAX_VALUE}) {
            Check.noSuch("24: cursor " + cursor, () -> tree.next(cursor));
            Check.noSuch("25: cursor " + cursor, () -> tree.leafOf(cursor));
            Check.noSuch("26: cursor " + cursor, () -> tree.close(cursor));
        }
        Check.same("24: the open one", tree.next(1), 0);
    }
}

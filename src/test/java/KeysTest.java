/** Promises 1 to 6: a new object and its keys. */
public final class KeysTest {
    private static final int NONE = Highkey.NONE;

    public static void main(String[] args) {
        newObject();
        put();
        putSplits();
        take();
        get();
        getByLeaves();
        keys();
        Check.end("KeysTest");
    }

    private static void newObject() {
        Highkey tree = new Highkey();
        Check.same("1: NONE", NONE, -1);
        Check.same("1: keys", tree.keys(), 0);
        Check.same("1: waiting", tree.waiting(), 0);
        Check.same("1: dead", tree.dead(), 0);
        Check.same("1: epoch", tree.epoch(), 0);
        Check.same("1: pages", tree.pages(), 1);
        Check.same("1: root", tree.root(), 0);
        Check.same("1: level", tree.level(0), 0);
        Check.same("1: size", tree.size(0), 0);
        Check.same("1: high", tree.high(0), 200);
        Check.same("1: right", tree.right(0), NONE);
        for (int key = 0; key < 200; key++) {
            Check.same("1: get " + key, tree.get(key), NONE);
        }
        Check.same("1: the first cursor", tree.open(0), 0);
    }

    private static void put() {
        Highkey tree = new Highkey();
        Check.same("2: a new key", tree.put(0, 9999), NONE);
        Check.same("2: the last key", tree.put(199, 0), NONE);
        Check.same("2: the value before", tree.put(0, 5), 9999);
        Check.same("2: the value before, 0", tree.put(199, 7), 0);
        Check.same("2: the value then", tree.get(0), 5);
        Check.same("2: the same value again", tree.put(0, 5), 5);
        Check.noKey("2: key -1", () -> tree.put(-1, 0));
        Check.noKey("2: key 200", () -> tree.put(200, 0));
        Check.noKey("2: value -1", () -> tree.put(1, -1));
        Check.noKey("2: value 10000", () -> tree.put(1, 10000));
        Check.noKey("2: a key that is there, value 10000", () -> tree.put(0, 10000));
        Check.noKey("2: least of all", () -> tree.put(Integer.MIN_VALUE, Integer.MIN_VALUE));
        Check.noKey("2: most of all", () -> tree.put(Integer.MAX_VALUE, Integer.MAX_VALUE));
        Check.same("2: keys behind wrong calls", tree.keys(), 2);
        Check.same("2: value behind wrong calls", tree.get(0), 5);
        Check.same("2: nothing put by wrong calls", tree.get(1), NONE);
    }

    private static void putSplits() {
        Highkey tree = new Highkey();
        for (int key : new int[] {50, 10, 40, 20}) {
            tree.put(key, key + 1);
        }
        Check.same("2: four keys, one page", tree.pages(), 1);
        Check.same("2: four keys by rising keys", Check.keysOf(tree, 0), "10 20 40 50");
        Check.same("2: a changed value splits nothing", tree.put(40, 3), 41);
        Check.same("2: still one page", tree.pages(), 1);
        tree.put(30, 31);
        Check.same("2: the lowest three stay", Check.keysOf(tree, 0), "10 20 30");
        Check.same("2: the other two go", Check.keysOf(tree, 1), "40 50");
        Check.same("2: the values go with them", tree.get(40) + " " + tree.get(50), "3 51");
        Check.same("2: the high key of the old page", tree.high(0), 40);
        Check.same("2: the high key of the new page", tree.high(1), 200);
        Check.same("2: the old page links to the new one", tree.right(0), 1);
        tree.put(39, 1);
        tree.put(35, 1);
        Check.same("2: a page between", Check.keysOf(tree, 2), "35 39");
        Check.same("2: the new page has the old link", tree.right(2), 1);
        Check.same("2: and the old high key", tree.high(2), 40);
        Check.same("2: splits wait", tree.waiting(), 2);
    }

    private static void take() {
        Highkey tree = Check.tree(0, 30);
        Check.same("3: a key behind nine links", tree.take(29), 290);
        Check.same("3: it is gone", tree.take(29), NONE);
        Check.same("3: get finds it no more", tree.get(29), NONE);
        Check.same("3: the others stay", tree.get(28) + " " + tree.get(30), "280 300");
        Check.same("3: the first key", tree.take(0), 0);
        Check.same("3: what stays moves up", Check.keysOf(tree, 0), "1 2");
        Check.same("3: the value moves up, too", tree.take(1), 10);
        Check.same("3: the last one", tree.take(2), 20);
        Check.same("3: an empty leaf stays", tree.size(0), 0);
        Check.same("3: no page goes", tree.pages(), 10);
        Check.same("3: a key never there", tree.take(199), NONE);
        Check.same("3: keys", tree.keys(), 27);
        Check.noKey("3: key -1", () -> tree.take(-1));
        Check.noKey("3: key 200", () -> tree.take(200));
        Check.same("3: keys behind wrong calls", tree.keys(), 27);
        Check.same("3: the key comes again", tree.put(29, 1), NONE);
        Check.same("3: with its new value", tree.take(29), 1);
    }

    private static void get() {
        Highkey tree = Check.tree(100, 140);
        checkValues("4: get, nothing posted, ", tree);
        tree.post();
        tree.post();
        checkValues("4: get, half is posted, ", tree);
        tree.postAll();
        checkValues("4: get, all posted, ", tree);
        Check.noKey("4: key -1", () -> tree.get(-1));
        Check.noKey("4: key 200", () -> tree.get(200));
    }

    private static void checkValues(String what, Highkey tree) {
        Check.same(what + 0, tree.get(0), NONE);
        Check.same(what + 199, tree.get(199), NONE);
        for (int key = 95; key < 145; key++) {
            int want = key >= 100 && key <= 140 ? 10 * key : NONE;
            Check.same(what + key, tree.get(key), want);
        }
    }

    private static void getByLeaves() {
        Highkey tree = Check.tree(0, 60);
        Check.takeRange(tree, 20, 40);
        Check.same("5: not posted", tree.getByLeaves(60), 600);
        tree.postAll();
        for (int leaf = 0; leaf < 20 && tree.takeOut() != NONE; leaf++) {
            tree.recycle();
        }
        Check.same("5: no leaf can be taken out", tree.takeOut(), NONE);
        tree.put(25, 1);
        for (int key = 0; key < 200; key++) {
            int want = key == 25 ? 1 : key < 20 || key > 40 && key <= 60 ? 10 * key : NONE;
            Check.same("5: getByLeaves " + key, tree.getByLeaves(key), want);
        }
        Check.noKey("5: key -1", () -> tree.getByLeaves(-1));
        Check.noKey("5: key 200", () -> tree.getByLeaves(200));
    }

    private static void keys() {
        Highkey tree = Check.tree(0, 199);
        Check.same("6: all keys", tree.keys(), 200);
        tree.put(7, 7);
        Check.same("6: a changed value is no key more", tree.keys(), 200);
        tree.postAll();
        Check.same("6: posting changes no key", tree.keys(), 200);
        tree.take(7);
        tree.take(7);
        Check.same("6: one was taken", tree.keys(), 199);
        Check.takeRange(tree, 0, 199);
        Check.same("6: no key", tree.keys(), 0);
        tree.takeOut();
        Check.same("6: no key behind takeOut", tree.keys(), 0);
    }
}

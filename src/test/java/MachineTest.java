import java.util.Set;
import java.util.function.IntSupplier;

/** No call throws by itself, or fails to end: not for any numbers, and not behind the 512th call either. */
public final class MachineTest {
    private static final Set<Class<?>> DUE = Set.of(
            IllegalArgumentException.class, IndexOutOfBoundsException.class, IllegalStateException.class);
    private static final int[] NUMBERS = {
        Integer.MIN_VALUE, Integer.MIN_VALUE + 1, -2, -1, 0, 1, 3, 4, 5, 19, 20, 21, 199, 200, 1023, 1024, 1025,
        Integer.MAX_VALUE - 1, Integer.MAX_VALUE,
    };

    public static void main(String[] args) {
        anyNumbers(new Highkey());
        Highkey full = Check.tree(0, 199);
        full.postAll();
        anyNumbers(full);
        manyDeadLeaves();
        manyCalls();
        mostPagesWithinTheCalls();
        Check.end("MachineTest");
    }

    private static void only(String what, IntSupplier call) {
        Object thrown = "none";
        try {
            call.getAsInt();
        } catch (RuntimeException e) {
            thrown = DUE.contains(e.getClass()) ? "none" : e.toString();
        }
        Check.same(what + ", an exception of the machine", thrown, "none");
    }

    private static void anyNumbers(Highkey tree) {
        for (int a : NUMBERS) {
            for (int b : NUMBERS) {
                only("put " + a + " " + b, () -> tree.put(a, b));
                only("keyAt " + a + " " + b, () -> tree.keyAt(a, b));
                only("below " + a + " " + b, () -> tree.below(a, b));
            }
            only("get " + a, () -> tree.get(a));
            only("getByLeaves " + a, () -> tree.getByLeaves(a));
            only("links " + a, () -> tree.links(a));
            only("take " + a, () -> tree.take(a));
            only("open " + a, () -> tree.open(a));
            only("next " + a, () -> tree.next(a));
            only("leafOf " + a, () -> tree.leafOf(a));
            only("close " + a, () -> tree.close(a));
            only("level " + a, () -> tree.level(a));
            only("size " + a, () -> tree.size(a));
            only("high " + a, () -> tree.high(a));
            only("right " + a, () -> tree.right(a));
            only("post", tree::post);
            only("takeOut", tree::takeOut);
            only("recycle", tree::recycle);
        }
    }

    /** Far more calls than an object is used for, and never recycled, until no number for a page is free. */
    private static void manyDeadLeaves() {
        Highkey tree = new Highkey();
        for (int round = 0; round < 60; round++) {
            for (int key = 0; key < 200; key++) {
                int asked = (key * 7 + round) % 200;
                only("put", () -> tree.put(asked, asked));
                only("post", () -> asked % 3 == 0 ? tree.post() : 0);
            }
            only("postAll", tree::postAll);
            for (int key = 0; key < 200; key++) {
                int asked = key;
                only("take", () -> tree.take(asked));
            }
            for (int leaf = 0; leaf < 70; leaf++) {
                only("takeOut", tree::takeOut);
            }
        }
        anyNumbers(tree);
    }

    private static void manyCalls() {
        Highkey tree = new Highkey();
        long seed = 5;
        for (int call = 0; call < 200000; call++) {
            seed = seed * 6364136223846793005L + 1442695040888963407L;
            int key = (int) ((seed >>> 40) % 200);
            switch ((int) ((seed >>> 34) % 16)) {
                case 0: only("post", tree::post); break;
                case 1: only("takeOut", tree::takeOut); break;
                case 2: only("open", () -> tree.open(key)); break;
                case 3: only("next", () -> tree.next(key % 20)); break;
                case 4: only("recycle", () -> key == 0 ? tree.recycle() : 0); break;
                case 5: case 6: case 7: case 8: case 9: only("take", () -> tree.take(key)); break;
                default: only("put", () -> tree.put(key, key)); break;
            }
        }
    }

    /** Falling keys split a leaf with every second put: no other 512 calls make many more pages, and none is refused. */
    private static void mostPagesWithinTheCalls() {
        Highkey tree = new Highkey();
        for (int key = 199; key >= 0; key--) {
            tree.put(key, key);
        }
        Check.same("posted", tree.waiting() < tree.postAll(), true);
        for (int key = 0; key < 200; key++) {
            tree.take(key);
        }
        for (int leaf = 0; leaf < 50; leaf++) {
            Check.same("a leaf is taken out", tree.takeOut() != Highkey.NONE, true);
        }
        for (int key = 59; key >= 0; key--) {
            Check.same("put " + key, tree.put(key, key), Highkey.NONE);
        }
        tree.postAll();
        Check.same("all keys", tree.keys(), 60);
        for (int key = 0; key < 60; key++) {
            Check.same("get " + key, tree.get(key), key);
            Check.same("links " + key, tree.links(key), 0);
        }
    }
}

/** Promises 7 to 9: splits that wait, and posting them. */
public final class SplitsTest {
    private static final int NONE = Highkey.NONE;

    public static void main(String[] args) {
        waiting();
        post();
        postInOrder();
        postBehindLinks();
        postWhatLostItsLowestKey();
        postAll();
        Check.end("SplitsTest");
    }

    private static void waiting() {
        Highkey tree = Check.tree(0, 3);
        Check.same("7: four keys", tree.waiting(), 0);
        tree.put(4, 0);
        Check.same("7: five keys", tree.waiting(), 1);
        Check.putRange(tree, 5, 10);
        Check.same("7: eleven keys", tree.waiting(), 3);
        tree.post();
        Check.same("7: one posted", tree.waiting(), 2);
        tree.takeOut();
        Check.same("7: takeOut posts nothing", tree.waiting(), 2);
    }

    private static void post() {
        Highkey tree = new Highkey();
        Check.fails("8: none waits", IllegalStateException.class, tree::post);
        Check.putRange(tree, 0, 7);
        Check.same("8: one waits then", tree.post(), 1);
        Check.same("8: a new root", tree.root(), 3);
        Check.same("8: its level", tree.level(3), 1);
        Check.same("8: its keys", Check.keysOf(tree, 3), "0 3");
        Check.same("8: its pages", Check.pagesOf(tree, 3), "0 1");
        Check.same("8: its high key", tree.high(3), 200);
        Check.same("8: it has no link", tree.right(3), NONE);
        Check.same("8: none waits then", tree.post(), 0);
        Check.same("8: an entry more", Check.keysOf(tree, 3), "0 3 6");
        Check.same("8: the root stays", tree.root(), 3);
        Check.fails("8: none waits any more", IllegalStateException.class, tree::post);
        Check.same("8: pages behind the wrong call", tree.pages(), 4);
    }

    /** Three leaves split off the first one to the left of each other: the oldest split is posted first. */
    private static void postInOrder() {
        Highkey tree = new Highkey();
        for (int key : new int[] {100, 101, 102, 103, 104, 50, 51, 20, 21}) {
            tree.put(key, key);
        }
        Check.same("8: three wait", tree.waiting(), 3);
        Check.same("8: leaves in their order", tree.right(0) + " " + tree.right(3) + " " + tree.right(2), "3 2 1");
        tree.post();
        Check.same("8: the oldest split", Check.keysOf(tree, tree.root()), "0 103");
        tree.post();
        Check.same("8: the second", Check.keysOf(tree, tree.root()), "0 101 103");
        tree.post();
        Check.same("8: all pages by rising keys", Check.pagesOf(tree, tree.root()), "0 3 2 1");
    }

    /** A page of level 1 that split, and whose split waits: entries for its right half are put there all the same. */
    private static void postBehindLinks() {
        Highkey tree = Check.tree(0, 20);
        for (int posts = 0; posts < 4; posts++) {
            tree.post();
        }
        int root = tree.root();
        Check.same("8: the root split", Check.keysOf(tree, root), "0 3 6");
        int half = tree.right(root);
        Check.same("8: its right half", Check.keysOf(tree, half), "9 12");
        Check.same("8: of the same level", tree.level(half), 1);
        Check.same("8: high keys", tree.high(root) + " " + tree.high(half), "9 200");
        Check.same("8: links, the half split among them", tree.links(9), 1);
        Check.same("8: that split waits, too", tree.waiting(), 3);
        tree.post();
        Check.same("8: an entry for the right half", Check.keysOf(tree, half), "9 12 15");
        Check.same("8: the root is the same", tree.root(), root);
        tree.post();
        Check.same("8: another one", Check.keysOf(tree, half), "9 12 15 18");
        Check.same("8: the last one", tree.post(), 0);
        int top = tree.root();
        Check.same("8: a root of level 2", tree.level(top), 2);
        Check.same("8: its keys", Check.keysOf(tree, top), "0 9");
        Check.same("8: its pages", Check.pagesOf(tree, top), root + " " + half);
    }

    /** The low key of a page stays what it was when the page was made. */
    private static void postWhatLostItsLowestKey() {
        Highkey tree = Check.tree(0, 4);
        tree.take(3);
        tree.post();
        Check.same("8: the low key that it had", Check.keysOf(tree, tree.root()), "0 3");
        tree.put(3, 5);
        Check.same("8: the page is for it still", Check.keysOf(tree, 1), "3 4");
    }

    private static void postAll() {
        Highkey tree = new Highkey();
        Check.same("9: none waits", tree.postAll(), 0);
        Check.putRange(tree, 0, 30);
        Check.same("9: nine wait", tree.waiting(), 9);
        Check.same("9: those that come by it count, too", tree.postAll(), 11);
        Check.same("9: two splits above, two roots", tree.pages(), 14);
        Check.same("9: none waits then", tree.waiting(), 0);
        Check.same("9: no links then", tree.links(30), 0);
        Check.same("9: again", tree.postAll(), 0);
        Check.putRange(tree, 31, 199);
        int toPost = tree.waiting();
        int pages = tree.pages();
        int level = tree.level(tree.root());
        int posted = tree.postAll();
        int newRoots = tree.level(tree.root()) - level;
        Check.same("9: pages made by it are posted, but new roots", posted, toPost + tree.pages() - pages - newRoots);
        for (int key = 0; key < 200; key++) {
            Check.same("9: links " + key, tree.links(key), 0);
        }
    }
}

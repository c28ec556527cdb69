/** Promises 14 to 22: asking for pages and links. */
public final class PagesTest {
    private static final int NONE = Highkey.NONE;
    private static final int[] NO_PAGES = {-1, 4, 1024, Integer.MIN_VALUE, Integer.MAX_VALUE};

    public static void main(String[] args) {
        pages();
        root();
        oneRootAbove();
        noSuchPage();
        twoLevelsAbove();
        deadPage();
        links();
        Check.end("PagesTest");
    }

    private static void pages() {
        Highkey tree = Check.tree(0, 3);
        Check.same("14: one", tree.pages(), 1);
        tree.put(4, 0);
        Check.same("14: a split that waits", tree.pages(), 2);
        tree.post();
        Check.same("14: a root", tree.pages(), 3);
        tree.take(3);
        tree.take(4);
        tree.takeOut();
        Check.same("14: a dead one", tree.pages(), 3);
        tree.recycle();
        Check.same("14: recycled", tree.pages(), 2);
    }

    private static void root() {
        Highkey tree = Check.tree(0, 199);
        Check.same("15: nothing posted", tree.root(), 0);
        int count = tree.pages();
        tree.post();
        Check.same("15: posted", tree.root(), count);
        tree.postAll();
        Check.same("16: levels", tree.level(tree.root()), 4);
        Check.same("20: the high key of the root", tree.high(tree.root()), 200);
        Check.same("21: it has no link", tree.right(tree.root()), NONE);
        Check.same("18: its first key", tree.keyAt(tree.root(), 0), 0);
    }

    private static void oneRootAbove() {
        Highkey tree = new Highkey();
        for (int key : new int[] {9, 7, 5, 3, 1, 8}) {
            tree.put(key, 0);
        }
        tree.put(10, 0);
        tree.put(11, 0);
        tree.post();
        Check.same("15: root", tree.root(), 3);
        Check.same("16: levels", tree.level(0) + " " + tree.level(1) + " " + tree.level(2) + " " + tree.level(3), "0 0 0 1");
        Check.same("17: sizes", tree.size(0) + " " + tree.size(1) + " " + tree.size(2) + " " + tree.size(3), "3 3 2 2");
        Check.same("18: keys of leaves", Check.keysOf(tree, 0) + ", " + Check.keysOf(tree, 1) + ", " + Check.keysOf(tree, 2),
                "1 3 5, 7 8 9, 10 11");
        Check.same("18: keys of the root", Check.keysOf(tree, 3), "0 7");
        Check.same("19: pages of the root", Check.pagesOf(tree, 3), "0 1");
        Check.same("20: high keys", tree.high(0) + " " + tree.high(1) + " " + tree.high(2) + " " + tree.high(3), "7 10 200 200");
        Check.same("21: links", tree.right(0) + " " + tree.right(1) + " " + tree.right(2) + " " + tree.right(3), "1 2 -1 -1");
        Check.same("18: not so many keys", tree.keyAt(2, 2) + " " + tree.keyAt(2, 3), "-1 -1");
        Check.same("18: the most of all", tree.keyAt(2, Integer.MAX_VALUE), NONE);
        Check.same("19: not so many entries", tree.below(3, 2) + " " + tree.below(3, 4), "-1 -1");
        Check.same("19: the most of all", tree.below(3, Integer.MAX_VALUE), NONE);
        Check.same("19: a leaf", tree.below(0, 0) + " " + tree.below(0, 99), "-1 -1");
        for (int place : new int[] {-1, Integer.MIN_VALUE}) {
            for (int page = 0; page < 4; page++) {
                int asked = page;
                Check.noSuch("18: page " + page + ", place " + place, () -> tree.keyAt(asked, place));
                Check.noSuch("19: page " + page + ", place " + place, () -> tree.below(asked, place));
            }
        }
    }

    private static void noSuchPage() {
        Highkey tree = Check.tree(0, 4);
        tree.postAll();
        for (int page : NO_PAGES) {
            Check.noSuch("16: page " + page, () -> tree.level(page));
            Check.noSuch("17: page " + page, () -> tree.size(page));
            Check.noSuch("18: page " + page, () -> tree.keyAt(page, 0));
            Check.noSuch("18: page and place, " + page, () -> tree.keyAt(page, -1));
            Check.noSuch("19: page " + page, () -> tree.below(page, 0));
            Check.noSuch("19: page and place, " + page, () -> tree.below(page, -1));
            Check.noSuch("20: page " + page, () -> tree.high(page));
            Check.noSuch("21: page " + page, () -> tree.right(page));
        }
        Check.noSuch("16: the next page", () -> tree.level(3));
    }

    private static void twoLevelsAbove() {
        Highkey tree = Check.tree(0, 13);
        tree.postAll();
        Check.same("14: five leaves, three above", tree.pages(), 8);
        Check.same("15: root", tree.root(), 7);
        Check.same("16: levels", tree.level(5) + " " + tree.level(6) + " " + tree.level(7), "1 1 2");
        Check.same("18: entries", Check.keysOf(tree, 5) + ", " + Check.keysOf(tree, 6) + ", " + Check.keysOf(tree, 7),
                "0 3 6, 9 12, 0 9");
        Check.same("19: pages", Check.pagesOf(tree, 5) + ", " + Check.pagesOf(tree, 6) + ", " + Check.pagesOf(tree, 7),
                "0 1 2, 3 4, 5 6");
        Check.same("20: high keys", tree.high(5) + " " + tree.high(6), "9 200");
        Check.same("21: links", tree.right(5) + " " + tree.right(6), "6 -1");
    }

    private static void deadPage() {
        Highkey tree = Check.tree(0, 7);
        tree.postAll();
        Check.takeRange(tree, 3, 5);
        Check.same("10: leaf", tree.takeOut(), 1);
        Check.same("16: a dead leaf", tree.level(1), 0);
        Check.same("17: a dead leaf", tree.size(1), 0);
        Check.same("18: a dead leaf", tree.keyAt(1, 0), NONE);
        Check.same("19: a dead leaf", tree.below(1, 0), NONE);
        Check.same("20: a dead leaf", tree.high(1), 6);
        Check.same("21: a dead leaf", tree.right(1), 2);
        tree.recycle();
        Check.noSuch("16: recycled", () -> tree.level(1));
    }

    private static void links() {
        Highkey tree = Check.tree(0, 13);
        for (int key = 0; key < 200; key++) {
            Check.same("22: nothing posted, " + key, tree.links(key), Math.min(key / 3, 4));
        }
        tree.post();
        for (int key = 0; key < 200; key++) {
            Check.same("22: one posted, " + key, tree.links(key), key < 3 ? 0 : Math.min(key / 3, 4) - 1);
        }
        tree.post();
        tree.post();
        tree.post();
        Check.same("22: a link above", tree.links(8) + " " + tree.links(9) + " " + tree.links(199), "0 1 1");
        Check.putRange(tree, 14, 16);
        Check.same("22: links on two levels", tree.links(16), 2);
        tree.postAll();
        Check.same("22: all posted", tree.links(16), 0);
        Check.noKey("22: key -1", () -> tree.links(-1));
        Check.noKey("22: key 200", () -> tree.links(200));
    }
}

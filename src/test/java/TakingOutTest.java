/** Promises 10 to 13: taking empty leaves out, and recycling them. */
public final class TakingOutTest {
    private static final int NONE = Highkey.NONE;

    public static void main(String[] args) {
        whatCanNotBeTakenOut();
        takeOut();
        lowestKeyFirst();
        leafBeforeThatWaits();
        leafThatSplit();
        firstOfARightHalf();
        recycle();
        recycleByEpochs();
        numbersComeAgain();
        dead();
        Check.end("TakingOutTest");
    }

    private static void whatCanNotBeTakenOut() {
        Highkey tree = new Highkey();
        Check.same("10: a root without keys", tree.takeOut(), NONE);
        Check.putRange(tree, 0, 7);
        Check.same("10: all leaves have keys", tree.takeOut(), NONE);
        Check.takeRange(tree, 0, 7);
        Check.same("10: no page of level 1", tree.takeOut(), NONE);
        tree.post();
        Check.same("10: leaf 2 is not in an entry yet", tree.takeOut() + " " + tree.takeOut(), "1 -1");
        tree.post();
        Check.same("10: now it is", tree.takeOut(), 2);
        Check.same("10: the first entry stays", tree.takeOut(), NONE);
        Check.same("10: one entry", Check.keysOf(tree, tree.root()) + " " + tree.size(tree.root()), "0 1");
        Check.same("13: calls that found none", tree.epoch(), 2);
    }

    private static void takeOut() {
        Highkey tree = Check.tree(0, 13);
        tree.postAll();
        int left = tree.below(tree.root(), 0);
        Check.same("10: before", Check.pagesOf(tree, left), "0 1 2");
        Check.takeRange(tree, 3, 8);
        Check.same("13: epoch", tree.epoch(), 0);
        Check.same("10: the number", tree.takeOut(), 1);
        Check.same("13: epoch grows", tree.epoch(), 1);
        Check.same("10: the entry goes", Check.pagesOf(tree, left) + ", " + Check.keysOf(tree, left), "0 2, 0 6");
        Check.same("10: the leaf before", tree.high(0) + " " + tree.right(0), "6 2");
        Check.same("10: dead, with its own link", tree.right(1) + " " + tree.high(1), "2 6");
        Check.same("10: dead, without keys", tree.size(1) + " " + tree.level(1), "0 0");
        Check.same("10: the next", tree.takeOut(), 2);
        Check.same("10: the leaf before that is not dead", tree.high(0) + " " + tree.right(0), "9 3");
        Check.same("10: the dead one keeps its link", tree.right(1) + " " + tree.high(1), "2 6");
        Check.same("13: epoch grows again", tree.epoch(), 2);
        Check.same("10: no other", tree.takeOut(), NONE);
        Check.same("13: and stays then", tree.epoch(), 2);
        Check.same("10: one entry stays", tree.size(left) + " " + tree.size(tree.right(left)), "1 2");
        tree.put(7, 1);
        Check.same("10: its keys go to the leaf before", Check.keysOf(tree, 0), "0 1 2 7");
        Check.same("10: they are found", tree.get(7) + " " + tree.getByLeaves(7), "1 1");
        Check.same("14: dead ones are pages", tree.pages(), 8);
    }

    private static void lowestKeyFirst() {
        Highkey tree = new Highkey();
        for (int key : new int[] {100, 101, 102, 103, 104, 50, 51, 20, 21}) {
            tree.put(key, key);
        }
        tree.postAll();
        Check.same("10: leaves by rising keys", Check.pagesOf(tree, tree.root()), "0 3 2 1");
        for (int key : new int[] {51, 100, 103, 104}) {
            tree.take(key);
        }
        Check.same("10: not the lowest number", tree.takeOut(), 3);
        Check.same("10: the other one", tree.takeOut(), 1);
        Check.same("10: the last leaf then", tree.high(2) + " " + tree.right(2), "200 -1");
    }

    private static void leafBeforeThatWaits() {
        Highkey tree = new Highkey();
        for (int key : new int[] {0, 10, 20, 30, 40, 50, 60, 70}) {
            tree.put(key, 1);
        }
        tree.postAll();
        Check.same("10: leaves", Check.keysOf(tree, tree.root()), "0 30 60");
        tree.put(35, 1);
        tree.put(36, 1);
        Check.same("10: a split that waits, between", tree.right(1), 4);
        tree.take(60);
        tree.take(70);
        Check.same("10: behind it", tree.takeOut(), 2);
        Check.same("10: it has the high key and the link", tree.high(4) + " " + tree.right(4), "200 -1");
        Check.same("10: the leaf of the entry before has its own", tree.high(1) + " " + tree.right(1), "40 4");
        tree.put(199, 9);
        Check.same("10: keys go there over the link", Check.keysOf(tree, 4) + ", " + tree.links(199), "40 50 199, 1");
        tree.post();
        Check.same("10: posted then", Check.keysOf(tree, tree.root()), "0 30 40");
    }

    /** A leaf that split is taken out while its split waits. */
    private static void leafThatSplit() {
        Highkey tree = Check.tree(0, 4);
        tree.postAll();
        Check.putRange(tree, 5, 7);
        Check.takeRange(tree, 3, 5);
        Check.same("10: the old half", tree.takeOut(), 1);
        Check.same("10: its high key and its link", tree.high(0) + " " + tree.right(0), "6 3");
        Check.same("10: the new half is found", tree.get(7) + " " + tree.links(7), "70 1");
        Check.same("10: its split waits still", tree.waiting(), 1);
        tree.post();
        Check.same("10: and is posted", Check.pagesOf(tree, tree.root()), "0 3");
    }

    private static void firstOfARightHalf() {
        Highkey tree = Check.tree(0, 30);
        tree.postAll();
        Check.takeRange(tree, 0, 30);
        StringBuilder taken = new StringBuilder();
        for (int leaf = 0; leaf < 8; leaf++) {
            taken.append(tree.takeOut()).append(' ');
        }
        Check.same("10: all but the first entries", taken.toString(), "1 2 4 5 7 8 9 -1 ");
        Check.same("10: what stays", tree.right(0) + " " + tree.right(3) + " " + tree.right(6), "3 6 -1");
        Check.same("10: the high keys", tree.high(0) + " " + tree.high(3) + " " + tree.high(6), "9 18 200");
        Check.same("13: epoch", tree.epoch(), 7);
        Check.same("12: dead", tree.dead(), 7);
    }

    private static Highkey emptied() {
        Highkey tree = Check.tree(0, 10);
        tree.postAll();
        Check.takeRange(tree, 3, 10);
        return tree;
    }

    private static void recycle() {
        Highkey tree = emptied();
        Check.same("11: none is dead", tree.recycle(), 0);
        tree.takeOut();
        tree.takeOut();
        Check.same("11: no cursor", tree.recycle(), 2);
        Check.noSuch("11: no page 1 any more", () -> tree.level(1));
        Check.noSuch("11: no page 2 any more", () -> tree.right(2));
        Check.same("12: none is dead", tree.dead(), 0);
        Check.same("14: pages", tree.pages(), 3);
        Check.same("13: recycling leaves the epoch", tree.epoch(), 2);
        Check.same("11: again", tree.recycle(), 0);
    }

    private static void recycleByEpochs() {
        Highkey tree = emptied();
        tree.open(4);
        tree.takeOut();
        tree.open(9);
        tree.takeOut();
        tree.open(9);
        Check.same("11: opened before both", tree.recycle(), 0);
        tree.close(0);
        Check.same("11: opened between, in the epoch of the second", tree.recycle(), 1);
        Check.noSuch("11: the first went", () -> tree.level(1));
        Check.same("11: the second is there", tree.level(2) + " " + tree.dead(), "0 1");
        tree.close(1);
        Check.same("11: opened behind it", tree.recycle(), 1);
        Check.same("11: none stays", tree.dead(), 0);
    }

    private static void numbersComeAgain() {
        Highkey tree = emptied();
        tree.takeOut();
        tree.takeOut();
        Check.putRange(tree, 3, 4);
        Check.same("11: a dead leaf has its number", tree.right(0), 5);
        tree.recycle();
        Check.putRange(tree, 5, 13);
        Check.same("2: the lowest free number", tree.right(5), 1);
        Check.same("2: and the next", tree.right(3), 2);
        tree.postAll();
        for (int key = 0; key <= 13; key++) {
            Check.same("11: get " + key, tree.get(key), 10 * key);
            Check.same("11: getByLeaves " + key, tree.getByLeaves(key), 10 * key);
        }
    }

    private static void dead() {
        Highkey tree = emptied();
        Check.same("12: empty is not dead", tree.dead(), 0);
        tree.takeOut();
        Check.same("12: one", tree.dead(), 1);
        tree.takeOut();
        Check.same("12: two", tree.dead(), 2);
        tree.takeOut();
        Check.same("12: three", tree.dead(), 3);
        tree.takeOut();
        Check.same("12: none can be taken out", tree.dead(), 3);
    }
}

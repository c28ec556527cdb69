/** The edges of the promises 10 to 13, each sentence with tests of its own. */
public final class TakingOutEdgesTest {
    private static final int NONE = Highkey.NONE;
    private static final String CAN_BE = "A leaf can be taken out if it has no keys, and it stands in an entry of a page of "
            + "level 1 that is not the first one of that page.";
    private static final String LINKS_OVER = "That entry goes; the leaf that links to it, and is not dead, gets its high key "
            + "and its right link instead.";
    private static final String KEEPS = "The leaf keeps its own right link; it is dead from then on.";
    private static final String LOWEST = "Takes a leaf out: of those that can be, the one with the lowest low key.";
    private static final String NUMBER = "Returns its number; NONE if none can be taken out.";
    private static final String EPOCH = "The epoch, 0 at first, grows by 1 behind that.";
    private static final String RECYCLED = "A dead leaf can be recycled when all open cursors were opened in a later epoch "
            + "than the one in which it was taken out; there is no such page then any more.";

    public static void main(String[] args) {
        Sentences.run(TakingOutEdgesTest.class);
    }

    /** A tree with the keys 0 to last, whose leaves 0, 1, 2, .. are for three keys each, and nothing waits. */
    private static Highkey posted(int last) {
        Highkey tree = Check.tree(0, last);
        tree.postAll();
        return tree;
    }

    /** The same without the keys from .. to. */
    private static Highkey without(int last, int from, int to) {
        Highkey tree = posted(last);
        Check.takeRange(tree, from, to);
        return tree;
    }

    // ---- promise 10

    @Says(promise = 10, sentence = CAN_BE)
    static void aLeafWithOneKeyStays() {
        Highkey tree = without(7, 3, 4);
        Check.same("with the key 5", tree.takeOut(), NONE);
        tree.take(5);
        Check.same("without it", tree.takeOut(), 1);
    }

    @Says(promise = 10, sentence = CAN_BE)
    static void aLeafThatIsTheRootStays() {
        Highkey tree = new Highkey();
        Check.same("a new tree", tree.takeOut(), NONE);
        tree.put(0, 1);
        tree.take(0);
        Check.same("emptied", tree.takeOut(), NONE);
        Check.same("pages, dead, epoch", tree.pages() + " " + tree.dead() + " " + tree.epoch(), "1 0 0");
    }

    @Says(promise = 10, sentence = CAN_BE)
    static void aLeafWithoutAPageOfLevel1Stays() {
        Highkey tree = Check.tree(0, 4);
        Check.takeRange(tree, 3, 4);
        Check.same("it stands in no entry", tree.takeOut(), NONE);
        tree.post();
        Check.same("it does", tree.takeOut(), 1);
    }

    @Says(promise = 10, sentence = CAN_BE)
    static void aLeafWhoseSplitWaitsStays() {
        Highkey tree = posted(4);
        Check.putRange(tree, 5, 7);
        Check.takeRange(tree, 6, 7);
        Check.same("it is the page 3", tree.right(1) + " " + tree.size(3), "3 0");
        Check.same("it stands in no entry", tree.takeOut(), NONE);
        tree.post();
        Check.same("it does", tree.takeOut(), 3);
    }

    @Says(promise = 10, sentence = CAN_BE)
    static void theFirstEntryOfTheFirstPageStays() {
        Highkey tree = without(7, 0, 2);
        Check.same("it is empty", tree.size(0), 0);
        Check.same("and stays", tree.takeOut(), NONE);
    }

    @Says(promise = 10, sentence = CAN_BE)
    static void theFirstEntryOfALaterPageStays() {
        Highkey tree = without(13, 9, 11);
        Check.same("it is the first one", Check.pagesOf(tree, 6) + ", " + tree.size(3), "3 4, 0");
        Check.same("and stays", tree.takeOut(), NONE);
    }

    @Says(promise = 10, sentence = CAN_BE)
    static void theSecondEntryOfEachPageGoes() {
        Highkey tree = without(13, 3, 5);
        Check.same("in the first page", tree.takeOut(), 1);
        Check.takeRange(tree, 12, 13);
        Check.same("in the last page", tree.takeOut(), 4);
        Check.same("entries", Check.pagesOf(tree, 5) + ", " + Check.pagesOf(tree, 6), "0 2, 3");
    }

    @Says(promise = 10, sentence = CAN_BE)
    static void theLastOfFourEntriesGoes() {
        Highkey tree = without(10, 9, 10);
        Check.same("it is the fourth one", Check.pagesOf(tree, 4), "0 1 2 3");
        Check.same("it goes", tree.takeOut(), 3);
        Check.same("three stay", Check.pagesOf(tree, 4) + ", " + Check.keysOf(tree, 4), "0 1 2, 0 3 6");
    }

    @Says(promise = 10, sentence = CAN_BE)
    static void aLeafThatBecomesTheFirstOfARightHalfStays() {
        Highkey tree = posted(10);
        Check.putRange(tree, 11, 13);
        Check.takeRange(tree, 9, 11);
        tree.post();
        Check.same("the page above has split", Check.keysOf(tree, 4) + ", " + Check.keysOf(tree, 6), "0 3 6, 9 12");
        Check.same("it is empty", tree.below(6, 0) + " " + tree.size(3), "3 0");
        Check.same("and stays", tree.takeOut(), NONE);
    }

    @Says(promise = 10, sentence = CAN_BE)
    static void aLeafWhoseRightHalfWaitsGoes() {
        Highkey tree = posted(4);
        Check.putRange(tree, 5, 7);
        Check.takeRange(tree, 3, 5);
        Check.same("it is empty and stands in an entry", tree.takeOut(), 1);
        Check.same("the right half is linked", tree.right(0) + " " + tree.high(0) + " " + tree.get(7), "3 6 70");
        Check.same("its split is posted", tree.post(), 0);
        Check.same("entries", Check.keysOf(tree, 2) + ", " + Check.pagesOf(tree, 2), "0 6, 0 3");
    }

    @Says(promise = 10, sentence = LOWEST)
    static void theLowestKeyGoesFirstThoughItsNumberIsTheHighest() {
        Highkey tree = new Highkey();
        for (int key : new int[] {100, 101, 102, 103, 104, 50, 51, 20, 21}) {
            tree.put(key, key);
        }
        tree.postAll();
        Check.same("leaves by rising keys", Check.pagesOf(tree, tree.root()), "0 3 2 1");
        Check.takeRange(tree, 51, 104);
        Check.same("by rising keys", tree.takeOut() + " " + tree.takeOut() + " " + tree.takeOut(), "3 2 1");
    }

    @Says(promise = 10, sentence = LOWEST)
    static void onlyOneIsTakenOut() {
        Highkey tree = without(10, 3, 10);
        Check.same("the first of three", tree.takeOut(), 1);
        Check.same("one is dead", tree.dead(), 1);
        Check.same("the others stay", Check.pagesOf(tree, 4), "0 2 3");
    }

    @Says(promise = 10, sentence = LOWEST)
    static void theFirstPageOfLevel1ComesBeforeTheNext() {
        Highkey tree = without(13, 6, 13);
        Check.same("in the first page, in the next one", tree.takeOut() + " " + tree.takeOut(), "2 4");
    }

    @Says(promise = 10, sentence = LOWEST)
    static void aPageOfLevel1WhoseSplitWaitsIsSearchedToo() {
        Highkey tree = Check.tree(0, 13);
        for (int posts = 0; posts < 4; posts++) {
            tree.post();
        }
        Check.takeRange(tree, 12, 13);
        Check.same("a right half without an entry above", tree.right(5) + " " + tree.root(), "6 5");
        Check.same("its second leaf goes", tree.takeOut(), 4);
        Check.same("one entry stays", Check.pagesOf(tree, 6), "3");
    }

    @Says(promise = 10, sentence = NUMBER)
    static void noneWhereNoLeafIsEmpty() {
        Highkey tree = posted(13);
        String before = Check.state(tree);
        Check.same("none", tree.takeOut(), NONE);
        Check.same("state", Check.state(tree), before);
    }

    @Says(promise = 10, sentence = NUMBER)
    static void noneWhereTheEmptyOnesAreTakenOut() {
        Highkey tree = without(13, 0, 13);
        Check.same("three can be", tree.takeOut() + " " + tree.takeOut() + " " + tree.takeOut(), "1 2 4");
        Check.same("no other", tree.takeOut(), NONE);
        tree.recycle();
        Check.same("nor behind recycling", tree.takeOut(), NONE);
    }

    @Says(promise = 10, sentence = LINKS_OVER)
    static void theLeafBeforeGetsHighKeyAndLink() {
        Highkey tree = without(7, 3, 5);
        tree.takeOut();
        Check.same("high key and link", tree.high(0) + " " + tree.right(0), "6 2");
        Check.same("the entries that stay", Check.keysOf(tree, 3) + ", " + Check.pagesOf(tree, 3), "0 6, 0 2");
        Check.same("the leaf for its keys", tree.leafOf(tree.open(3)) + " " + tree.leafOf(tree.open(5)), "0 0");
        Check.same("the leaf behind", tree.leafOf(tree.open(6)), 2);
    }

    @Says(promise = 10, sentence = LINKS_OVER)
    static void theLastLeafLeavesNoLink() {
        Highkey tree = without(4, 3, 4);
        tree.takeOut();
        Check.same("high key and link", tree.high(0) + " " + tree.right(0), "200 -1");
        Check.same("one entry stays", Check.keysOf(tree, 2) + ", " + Check.pagesOf(tree, 2), "0, 0");
        tree.put(199, 5);
        Check.same("it is for all keys", Check.keysOf(tree, 0) + ", " + tree.get(199), "0 1 2 199, 5");
    }

    @Says(promise = 10, sentence = LINKS_OVER)
    static void aLeafBeforeThatStandsInNoEntryGetsThem() {
        Highkey tree = new Highkey();
        for (int key = 0; key <= 70; key += 10) {
            tree.put(key, 1);
        }
        tree.postAll();
        tree.put(35, 1);
        tree.put(36, 1);
        Check.same("leaf 4 links to leaf 2", tree.right(1) + " " + tree.right(4), "4 2");
        tree.take(60);
        tree.take(70);
        Check.same("leaf 2", tree.takeOut(), 2);
        Check.same("leaf 4 has its high key and link", tree.high(4) + " " + tree.right(4), "200 -1");
        Check.same("leaf 1 has its own", tree.high(1) + " " + tree.right(1), "40 4");
    }

    @Says(promise = 10, sentence = LINKS_OVER)
    static void aDeadLeafThatLinksToItDoesNotGetThem() {
        Highkey tree = without(10, 3, 8);
        Check.same("1, then 2, to which the dead 1 links", tree.takeOut() + " " + tree.takeOut(), "1 2");
        Check.same("the dead one", tree.right(1) + " " + tree.high(1), "2 6");
        Check.same("the other one", tree.right(0) + " " + tree.high(0), "3 9");
    }

    @Says(promise = 10, sentence = KEEPS)
    static void theDeadLeafKeepsItsLink() {
        Highkey tree = without(7, 3, 7);
        tree.takeOut();
        Check.same("its link", tree.right(1), 2);
        tree.takeOut();
        Check.same("its link still", tree.right(1), 2);
        Check.same("the one without a link", tree.right(2), NONE);
        Check.same("they are there without keys", tree.size(1) + " " + tree.level(1) + " " + tree.size(2), "0 0 0");
    }

    @Says(promise = 10, sentence = KEEPS)
    static void keysThatComeAgainGoToNoDeadLeaf() {
        Highkey tree = without(7, 3, 5);
        tree.takeOut();
        Check.putRange(tree, 3, 5);
        Check.same("the dead one is empty", tree.size(1), 0);
        Check.same("they are on the leaf before", Check.keysOf(tree, 0) + ", " + Check.keysOf(tree, 4), "0 1 2, 3 4 5");
        Check.same("dead for good", tree.dead(), 1);
    }

    // ---- promise 11

    @Says(promise = 11, sentence = "Returns how many.")
    static void recycleAnswers0WhereNoneIsDead() {
        Highkey tree = new Highkey();
        Check.same("a new tree", tree.recycle(), 0);
        Highkey emptied = without(10, 3, 10);
        Check.same("empty ones are not dead", emptied.recycle(), 0);
        Check.same("pages", emptied.pages(), 5);
    }

    @Says(promise = 11, sentence = "Recycles all dead leaves that can be.")
    static void allAreRecycledAtOnce() {
        Highkey tree = without(10, 3, 10);
        tree.takeOut();
        tree.takeOut();
        tree.takeOut();
        Check.same("three", tree.recycle(), 3);
        Check.same("none is left", tree.recycle() + " " + tree.dead() + " " + tree.pages(), "0 0 2");
    }

    @Says(promise = 11, sentence = "Recycles all dead leaves that can be.")
    static void onlyThoseThatCanBeAreRecycled() {
        Highkey tree = without(10, 3, 10);
        tree.takeOut();
        tree.open(0);
        tree.takeOut();
        tree.takeOut();
        Check.same("the first", tree.recycle(), 1);
        Check.noSuch("the page 1", () -> tree.size(1));
        Check.same("the others are there", tree.size(2) + " " + tree.size(3) + " " + tree.dead(), "0 0 2");
        tree.close(0);
        Check.same("the others", tree.recycle(), 2);
    }

    @Says(promise = 11, sentence = RECYCLED)
    static void withoutAnOpenCursorItCanBe() {
        Highkey tree = without(7, 3, 5);
        tree.takeOut();
        Check.same("no cursor", tree.recycle(), 1);
    }

    @Says(promise = 11, sentence = RECYCLED)
    static void aCursorOpenedInTheSameEpochHoldsIt() {
        Highkey tree = without(7, 3, 7);
        tree.takeOut();
        tree.open(100);
        Check.same("the epochs are the same", tree.epoch(), 1);
        Check.same("leaf 2", tree.takeOut(), 2);
        Check.same("only leaf 1 was taken out in an earlier one", tree.recycle(), 1);
        Check.same("leaf 2 is there", tree.level(2), 0);
    }

    @Says(promise = 11, sentence = RECYCLED)
    static void aCursorOpenedInAnEarlierEpochHoldsIt() {
        Highkey tree = without(10, 3, 8);
        tree.open(100);
        tree.takeOut();
        tree.takeOut();
        Check.same("none", tree.recycle(), 0);
        Check.same("both are there", tree.level(1) + " " + tree.level(2) + " " + tree.dead(), "0 0 2");
    }

    @Says(promise = 11, sentence = RECYCLED)
    static void aCursorOpenedInTheNextEpochDoesNot() {
        Highkey tree = without(7, 3, 5);
        tree.takeOut();
        tree.open(3);
        Check.same("one", tree.recycle(), 1);
    }

    @Says(promise = 11, sentence = RECYCLED)
    static void itIsHeldWhereverTheCursorIs() {
        Highkey tree = without(7, 3, 5);
        tree.open(0);
        tree.open(6);
        tree.takeOut();
        Check.same("they are on other leaves", tree.leafOf(0) + " " + tree.leafOf(1), "0 2");
        Check.same("none", tree.recycle(), 0);
        tree.close(0);
        Check.same("none, for the other one", tree.recycle(), 0);
        tree.close(1);
        Check.same("one", tree.recycle(), 1);
    }

    @Says(promise = 11, sentence = RECYCLED)
    static void aLaterCursorDoesNotHelpWhereAnEarlierOneIsOpen() {
        Highkey tree = without(7, 3, 5);
        tree.open(0);
        tree.takeOut();
        tree.open(0);
        Check.same("none", tree.recycle(), 0);
        tree.close(0);
        Check.same("only the later one is open", tree.recycle(), 1);
    }

    @Says(promise = 11, sentence = RECYCLED)
    static void aCursorThatWalkedOnHoldsIt() {
        Highkey tree = without(7, 3, 5);
        tree.open(3);
        tree.takeOut();
        Check.same("it walks off the dead leaf", tree.next(0) + " " + tree.leafOf(0), "6 2");
        Check.same("none", tree.recycle(), 0);
    }

    @Says(promise = 11, sentence = RECYCLED)
    static void thereIsNoSuchPageAnyMore() {
        Highkey tree = without(7, 3, 5);
        tree.takeOut();
        Check.same("there is one still", tree.level(1), 0);
        tree.recycle();
        Check.noSuch("level", () -> tree.level(1));
        Check.noSuch("size", () -> tree.size(1));
        Check.noSuch("keyAt", () -> tree.keyAt(1, 0));
        Check.noSuch("below", () -> tree.below(1, 0));
        Check.noSuch("high", () -> tree.high(1));
        Check.noSuch("right", () -> tree.right(1));
        Check.same("the others are there", tree.level(0) + " " + tree.level(2) + " " + tree.level(3), "0 0 1");
    }

    @Says(promise = 11, sentence = "empty leaves are taken out and recycled when no cursor can be on them any more")
    static void itIsRecycledWhenTheCursorsThatCanBeOnItAreClosed() {
        Highkey tree = posted(10);
        for (int round = 0; round < 6; round++) {
            int on = tree.open(3);
            Check.takeRange(tree, 3, 5);
            Check.same("taken out", tree.takeOut(), 1);
            int later = tree.open(3);
            Check.same("where the cursors are", tree.leafOf(on) + " " + tree.leafOf(later), "1 0");
            Check.same("one can be on it", tree.recycle() + " " + tree.level(1), "0 0");
            tree.close(on);
            Check.same("none can be", tree.recycle(), 1);
            Check.noSuch("it is gone", () -> tree.level(1));
            Check.same("the later one is open still", tree.leafOf(later), 0);
            Check.putRange(tree, 3, 5);
            Check.same("its number is used again", tree.right(0) + " " + Check.keysOf(tree, 1), "1 3 4 5");
            Check.same("and posted", tree.postAll(), 1);
            Check.same("the later one walks on it", tree.next(later) + " " + tree.leafOf(later), "3 1");
            Check.same("none is open", tree.close(later), 0);
        }
    }

    // ---- promise 12

    @Says(promise = 12, sentence = "Returns how many dead leaves there are.")
    static void deadCountsTakenOutLeavesAlone() {
        Highkey tree = without(7, 3, 7);
        Check.same("empty ones", tree.dead(), 0);
        tree.takeOut();
        Check.same("one", tree.dead(), 1);
        tree.takeOut();
        Check.same("two", tree.dead(), 2);
        tree.takeOut();
        Check.same("where none can be taken out", tree.dead(), 2);
    }

    @Says(promise = 12, sentence = "Returns how many dead leaves there are.")
    static void deadCountsNoRecycledLeaf() {
        Highkey tree = without(7, 3, 7);
        tree.takeOut();
        tree.open(0);
        tree.takeOut();
        tree.recycle();
        Check.same("one could not be", tree.dead(), 1);
        tree.close(0);
        tree.recycle();
        Check.same("none", tree.dead(), 0);
        Check.same("a new tree", new Highkey().dead(), 0);
    }

    // ---- promise 13

    @Says(promise = 13, sentence = EPOCH)
    static void theEpochIs0AtFirst() {
        Check.same("a new tree", new Highkey().epoch(), 0);
        Highkey tree = without(7, 3, 7);
        tree.open(0);
        tree.next(0);
        tree.close(0);
        Check.same("no leaf was taken out", tree.epoch(), 0);
    }

    @Says(promise = 13, sentence = EPOCH)
    static void theEpochGrowsBy1ForEachLeafTakenOut() {
        Highkey tree = without(10, 3, 10);
        for (int taken = 1; taken <= 3; taken++) {
            tree.takeOut();
            Check.same("behind leaf " + taken, tree.epoch(), taken);
        }
    }

    @Says(promise = 13, sentence = "Returns the epoch.")
    static void theEpochStaysWhereNoneIsTakenOutAndWhereOneIsRecycled() {
        Highkey tree = new Highkey();
        tree.takeOut();
        Check.same("a new tree", tree.epoch(), 0);
        Highkey emptied = without(7, 3, 5);
        emptied.takeOut();
        emptied.takeOut();
        Check.same("one, then none", emptied.epoch(), 1);
        emptied.recycle();
        Check.same("recycled", emptied.epoch(), 1);
    }
}

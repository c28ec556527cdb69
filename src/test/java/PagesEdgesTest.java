import java.util.function.IntConsumer;

/** The edges of the promises 14 to 22, each sentence with tests of its own. */
public final class PagesEdgesTest {
    private static final int NONE = Highkey.NONE;
    private static final String LOWEST_NUMBER = "Pages have numbers; a new page gets the lowest number that no page has.";
    private static final String NO_SUCH_PAGE = "Throws `IndexOutOfBoundsException` if there is no such page";
    private static final String NO_SUCH_PLACE = "Throws `IndexOutOfBoundsException` if there is no such page, or place is "
            + "below 0";
    private static final String UNCHANGED = "A call that throws an exception changes nothing";
    private static final String KEY_OR_NONE = "Returns the key; NONE if it does not have so many.";
    private static final String PAGE_OR_NONE = "Returns the number of the page; NONE if it does not have so many entries, or "
            + "is a leaf.";
    private static final String HIGH_KEY = "A page has a low key and a high one: it is for the keys from its low one on that "
            + "are less than its high one.";
    private static final String LINK = "It has a right link, to the page of the same level for the keys from its high one on, "
            + "if that is less than 200.";
    private static final String GOING_DOWN = "To go down for a key to a level is to begin at the root, and, again and again, "
            + "to follow the right link as long as the key is not less than the high key of the page, or else, if the page "
            + "is above that level, to go to the page of its last entry whose key is not greater.";
    private static final String COUNTED = "Returns how many right links are followed when one goes down for a key to the leaf "
            + "for it.";
    // With the pages 0, 2, 3 and 4: the nearest ones, the recycled one, the farthest, and where rows of pages may end.
    private static final int[] NO_PAGES = {
        -1, 5, 1, Integer.MIN_VALUE, Integer.MAX_VALUE, 64, 128, 200, 256, 511, 512, 1000, 1024, 2048, 65536,
    };

    public static void main(String[] args) {
        Sentences.run(PagesEdgesTest.class);
    }

    private static Highkey posted(int last) {
        Highkey tree = Check.tree(0, last);
        tree.postAll();
        return tree;
    }

    /** The leaves 0, 2 and 3 in the root 4, and the dead leaf 1. */
    private static Highkey withDeadLeaf() {
        Highkey tree = posted(10);
        Check.takeRange(tree, 3, 5);
        tree.takeOut();
        return tree;
    }

    /** The same without the page 1. */
    private static Highkey withRecycledLeaf() {
        Highkey tree = withDeadLeaf();
        tree.recycle();
        return tree;
    }

    private static void noSuchPages(String what, Highkey tree, int[] pages, IntConsumer call) {
        for (int page : pages) {
            Check.noSuch(what + " of page " + page, () -> call.accept(page));
        }
    }

    // ---- promise 14

    @Says(promise = 14, sentence = "Returns how many pages there are, dead ones too.")
    static void pagesCountsFrom1OnWithLeavesAndPagesAbove() {
        Highkey tree = new Highkey();
        Check.same("a new tree", tree.pages(), 1);
        Check.putRange(tree, 0, 3);
        Check.same("four keys", tree.pages(), 1);
        tree.put(4, 0);
        Check.same("a split", tree.pages(), 2);
        tree.post();
        Check.same("a root", tree.pages(), 3);
        Check.putRange(tree, 5, 13);
        tree.postAll();
        Check.same("five leaves, two pages above them, a root", tree.pages(), 8);
    }

    @Says(promise = 14, sentence = "Returns how many pages there are, dead ones too.")
    static void pagesCountsDeadOnesUntilTheyAreRecycled() {
        Highkey tree = withDeadLeaf();
        Check.same("four and a dead one", tree.pages(), 5);
        tree.recycle();
        Check.same("four", tree.pages(), 4);
    }

    @Says(promise = 14, sentence = LOWEST_NUMBER)
    static void theNumbersRiseWhileNoneIsFree() {
        Highkey tree = Check.tree(0, 13);
        Check.same("leaves", tree.right(0) + " " + tree.right(1) + " " + tree.right(2) + " " + tree.right(3), "1 2 3 4");
        tree.post();
        Check.same("a root", tree.root(), 5);
        tree.postAll();
        Check.same("a page beside it, a root above", tree.right(5) + " " + tree.root(), "6 7");
    }

    @Says(promise = 14, sentence = LOWEST_NUMBER)
    static void aDeadLeafHasItsNumberStill() {
        Highkey tree = withDeadLeaf();
        Check.putRange(tree, 11, 13);
        Check.same("a new leaf", tree.right(3), 5);
        Check.same("the dead one is there", tree.size(1) + " " + tree.right(1), "0 2");
    }

    @Says(promise = 14, sentence = LOWEST_NUMBER)
    static void recycledNumbersComeAgainTheLowestFirst() {
        Highkey tree = posted(10);
        Check.takeRange(tree, 3, 8);
        tree.takeOut();
        tree.takeOut();
        tree.recycle();
        Check.putRange(tree, 11, 19);
        Check.same("1, 2, then the next above all", tree.right(3) + " " + tree.right(1) + " " + tree.right(2), "1 2 5");
        Check.same("keys of the new ones", Check.keysOf(tree, 1) + ", " + Check.keysOf(tree, 2), "12 13 14, 15 16 17");
        Check.same("of level 0", tree.level(1) + " " + tree.level(2), "0 0");
    }

    @Says(promise = 14, sentence = LOWEST_NUMBER)
    static void pagesAboveAndRootsGetRecycledNumbersToo() {
        Highkey tree = posted(10);
        Check.putRange(tree, 11, 22);
        Check.takeRange(tree, 3, 8);
        tree.takeOut();
        tree.takeOut();
        Check.same("1 and 2 are free", tree.recycle(), 2);
        tree.post();
        tree.post();
        tree.post();
        Check.same("a page of level 1", tree.right(4) + " " + tree.level(1), "1 1");
        tree.postAll();
        Check.same("a root", tree.root() + " " + tree.level(2), "2 2");
        Check.same("its entries", Check.keysOf(tree, 2) + ", " + Check.pagesOf(tree, 2), "0 15, 4 1");
    }

    // ---- promise 15

    @Says(promise = 15, sentence = "Returns the number of the root.")
    static void theRootStaysUntilASplitOfItsLevelIsPosted() {
        Highkey tree = Check.tree(0, 7);
        Check.same("splits wait", tree.root(), 0);
        tree.post();
        Check.same("one is posted", tree.root(), 3);
        tree.post();
        Check.same("the other one, too", tree.root(), 3);
    }

    @Says(promise = 15, sentence = "Returns the number of the root.")
    static void theRootStaysThoughAllLeavesButOneAreTakenOut() {
        Highkey tree = posted(7);
        Check.takeRange(tree, 0, 7);
        tree.takeOut();
        tree.takeOut();
        tree.recycle();
        Check.same("root", tree.root() + " " + tree.level(3), "3 1");
        Check.same("one entry", Check.pagesOf(tree, 3), "0");
    }

    // ---- promise 16

    @Says(promise = 16, sentence = "Returns the level of a page.")
    static void levelsRiseFrom0() {
        Highkey tree = posted(13);
        Check.same("leaves", tree.level(0) + " " + tree.level(4), "0 0");
        Check.same("above", tree.level(5) + " " + tree.level(6), "1 1");
        Check.same("the root", tree.level(7), 2);
        Check.same("a dead leaf", withDeadLeaf().level(1), 0);
    }

    @Says(promise = 16, sentence = "- `page`: the number of a page")
    static void levelTakesEveryPageADeadOneToo() {
        Highkey tree = withDeadLeaf();
        int[] due = {0, 0, 0, 0, 1};
        for (int page = 0; page < due.length; page++) {
            Check.same("page " + page, tree.level(page), due[page]);
        }
    }

    @Says(promise = 16, sentence = NO_SUCH_PAGE)
    static void levelRefusesWhereThereIsNoSuchPage() {
        Highkey tree = withRecycledLeaf();
        noSuchPages("level", tree, NO_PAGES, tree::level);
        Check.noSuch("page 1 of a new tree", () -> new Highkey().level(1));
    }

    @Says(promise = 16, sentence = UNCHANGED)
    static void refusedQuestionsChangeNothing() {
        Highkey tree = withRecycledLeaf();
        String before = Check.state(tree);
        for (int page : NO_PAGES) {
            Check.noSuch("level", () -> tree.level(page));
            Check.noSuch("size", () -> tree.size(page));
            Check.noSuch("keyAt", () -> tree.keyAt(page, 0));
            Check.noSuch("below", () -> tree.below(page, 0));
            Check.noSuch("high", () -> tree.high(page));
            Check.noSuch("right", () -> tree.right(page));
            Check.noSuch("keyAt with a wrong place", () -> tree.keyAt(0, -1));
            Check.noSuch("below with a wrong place", () -> tree.below(4, -1));
        }
        Check.noKeys("links", tree::links);
        Check.noKeys("get", tree::get);
        Check.noKeys("getByLeaves", tree::getByLeaves);
        Check.same("state", Check.state(tree), before);
    }

    // ---- promise 17

    @Says(promise = 17, sentence = "Returns how many keys or entries a page has.")
    static void sizesOfLeavesGoFrom0To4() {
        Highkey tree = new Highkey();
        Check.same("no key", tree.size(0), 0);
        for (int key = 0; key <= 3; key++) {
            tree.put(key, 0);
            Check.same("keys", tree.size(0), key + 1);
        }
        tree.put(4, 0);
        Check.same("split", tree.size(0) + " " + tree.size(1), "3 2");
        tree.take(0);
        Check.same("a key less", tree.size(0), 2);
    }

    @Says(promise = 17, sentence = "Returns how many keys or entries a page has.")
    static void sizesOfPagesAboveGoFrom1To4() {
        Highkey tree = Check.tree(0, 13);
        for (int entries = 2; entries <= 4; entries++) {
            tree.post();
            Check.same("entries", tree.size(5), entries);
        }
        tree.post();
        Check.same("split", tree.size(5) + " " + tree.size(6), "3 2");
        Check.takeRange(tree, 12, 13);
        tree.takeOut();
        Check.same("one entry", tree.size(6), 1);
    }

    @Says(promise = 17, sentence = "Returns how many keys or entries a page has.")
    static void aDeadLeafHasNoKeys() {
        Highkey tree = withDeadLeaf();
        Check.same("dead", tree.size(1), 0);
        Check.same("an entry less", tree.size(4), 3);
    }

    @Says(promise = 17, sentence = "- `page`: the number of a page")
    static void sizeTakesEveryPageADeadOneToo() {
        Highkey tree = withDeadLeaf();
        int[] due = {3, 0, 3, 2, 3};
        for (int page = 0; page < due.length; page++) {
            Check.same("page " + page, tree.size(page), due[page]);
        }
    }

    @Says(promise = 17, sentence = NO_SUCH_PAGE)
    static void sizeRefusesWhereThereIsNoSuchPage() {
        Highkey tree = withRecycledLeaf();
        noSuchPages("size", tree, NO_PAGES, tree::size);
    }

    // ---- promise 18

    @Says(promise = 18, sentence = "- `place`: from 0, by rising keys")
    static void keysOfALeafRiseFromPlace0() {
        Highkey tree = new Highkey();
        for (int key : new int[] {199, 5, 0, 100}) {
            tree.put(key, 1);
        }
        Check.same("places 0 to 3", tree.keyAt(0, 0) + " " + tree.keyAt(0, 1) + " " + tree.keyAt(0, 2) + " "
                + tree.keyAt(0, 3), "0 5 100 199");
    }

    @Says(promise = 18, sentence = "Returns a key of a leaf, or the key of an entry of a page above.")
    static void keysOfEntriesAreTold() {
        Highkey tree = posted(13);
        Check.same("of level 1", tree.keyAt(5, 0) + " " + tree.keyAt(5, 1) + " " + tree.keyAt(5, 2), "0 3 6");
        Check.same("of level 2", tree.keyAt(7, 0) + " " + tree.keyAt(7, 1), "0 9");
        tree.take(9);
        Check.same("though the key is taken", tree.keyAt(6, 0), 9);
    }

    @Says(promise = 18, sentence = KEY_OR_NONE)
    static void theFirstPlaceBehindTheLastKeyHasNone() {
        Highkey tree = new Highkey();
        Check.same("an empty leaf", tree.keyAt(0, 0), NONE);
        for (int key = 0; key <= 3; key++) {
            tree.put(key, 0);
            Check.same("the last key", tree.keyAt(0, key), key);
            Check.same("behind it", tree.keyAt(0, key + 1), NONE);
        }
        Check.same("far behind", tree.keyAt(0, 5) + " " + tree.keyAt(0, 1000), "-1 -1");
        Check.same("the farthest", tree.keyAt(0, Integer.MAX_VALUE), NONE);
    }

    @Says(promise = 18, sentence = KEY_OR_NONE)
    static void keysThatWentLeaveNone() {
        Highkey tree = Check.tree(0, 4);
        Check.same("to the new leaf", tree.keyAt(0, 2) + " " + tree.keyAt(0, 3) + " " + tree.keyAt(0, 4), "2 -1 -1");
        tree.take(2);
        Check.same("taken", tree.keyAt(0, 1) + " " + tree.keyAt(0, 2), "1 -1");
        Highkey withDead = withDeadLeaf();
        Check.same("a dead leaf", withDead.keyAt(1, 0), NONE);
        Check.same("an entry that went", withDead.keyAt(4, 2) + " " + withDead.keyAt(4, 3), "9 -1");
    }

    @Says(promise = 18, sentence = KEY_OR_NONE)
    static void theFirstPlaceBehindTheLastEntryHasNoKey() {
        Highkey tree = posted(13);
        Check.same("three entries", tree.keyAt(5, 2) + " " + tree.keyAt(5, 3) + " " + tree.keyAt(5, 4), "6 -1 -1");
        Check.same("two entries", tree.keyAt(7, 1) + " " + tree.keyAt(7, 2), "9 -1");
        Check.same("the farthest", tree.keyAt(7, Integer.MAX_VALUE), NONE);
    }

    @Says(promise = 18, sentence = "- `page`: the number of a page")
    static void keyAtTakesEveryPageADeadOneToo() {
        Highkey tree = withDeadLeaf();
        int[] due = {1, NONE, 7, 10, 6};
        for (int page = 0; page < due.length; page++) {
            Check.same("page " + page, tree.keyAt(page, 1), due[page]);
        }
    }

    @Says(promise = 18, sentence = NO_SUCH_PLACE)
    static void keyAtRefusesAPlaceBelow0() {
        Highkey tree = posted(4);
        for (int place : new int[] {-1, -2, Integer.MIN_VALUE}) {
            Check.noSuch("of a leaf, place " + place, () -> tree.keyAt(0, place));
            Check.noSuch("of a page above, place " + place, () -> tree.keyAt(2, place));
            Check.noSuch("of an empty leaf, place " + place, () -> new Highkey().keyAt(0, place));
        }
    }

    @Says(promise = 18, sentence = NO_SUCH_PLACE)
    static void keyAtRefusesWhereThereIsNoSuchPage() {
        Highkey tree = withRecycledLeaf();
        noSuchPages("keyAt place 0", tree, NO_PAGES, page -> tree.keyAt(page, 0));
        noSuchPages("keyAt place 9", tree, NO_PAGES, page -> tree.keyAt(page, 9));
        noSuchPages("keyAt place -1", tree, NO_PAGES, page -> tree.keyAt(page, -1));
    }

    // ---- promise 19

    @Says(promise = 19, sentence = "- `place`: from 0, by rising keys")
    static void pagesOfEntriesStandByRisingKeysNotByTheirNumbers() {
        Highkey tree = new Highkey();
        for (int key : new int[] {100, 101, 102, 103, 104, 50, 51, 20, 21}) {
            tree.put(key, key);
        }
        tree.postAll();
        int root = tree.root();
        Check.same("places 0 to 3", tree.below(root, 0) + " " + tree.below(root, 1) + " " + tree.below(root, 2) + " "
                + tree.below(root, 3), "0 3 2 1");
    }

    @Says(promise = 19, sentence = "Returns the page of an entry.")
    static void pagesOfEntriesAreOfTheLevelBelow() {
        Highkey tree = posted(13);
        Check.same("of the root", Check.pagesOf(tree, 7), "5 6");
        Check.same("of level 1", Check.pagesOf(tree, 5) + ", " + Check.pagesOf(tree, 6), "0 1 2, 3 4");
    }

    @Says(promise = 19, sentence = PAGE_OR_NONE)
    static void theFirstPlaceBehindTheLastEntryHasNoPage() {
        Highkey tree = Check.tree(0, 10);
        for (int entries = 2; entries <= 4; entries++) {
            tree.post();
            Check.same("the last entry", tree.below(4, entries - 1), entries - 1);
            Check.same("behind it", tree.below(4, entries), NONE);
        }
        Check.same("far behind", tree.below(4, 5) + " " + tree.below(4, 1000), "-1 -1");
        Check.same("the farthest", tree.below(4, Integer.MAX_VALUE), NONE);
    }

    @Says(promise = 19, sentence = PAGE_OR_NONE)
    static void entriesThatWentLeaveNone() {
        Highkey tree = posted(13);
        Check.same("to the right half", tree.below(5, 2) + " " + tree.below(5, 3) + " " + tree.below(5, 4), "2 -1 -1");
        Highkey withDead = withDeadLeaf();
        Check.same("taken out", withDead.below(4, 2) + " " + withDead.below(4, 3), "3 -1");
    }

    @Says(promise = 19, sentence = PAGE_OR_NONE)
    static void aLeafHasNoneAtAnyPlace() {
        Highkey tree = Check.tree(0, 3);
        for (int place = 0; place <= 5; place++) {
            Check.same("place " + place, tree.below(0, place), NONE);
        }
        Check.same("the farthest", tree.below(0, Integer.MAX_VALUE), NONE);
        Check.same("a dead leaf", withDeadLeaf().below(1, 0), NONE);
    }

    @Says(promise = 19, sentence = "- `page`: the number of a page")
    static void belowTakesEveryPageADeadOneToo() {
        Highkey tree = withDeadLeaf();
        int[] due = {NONE, NONE, NONE, NONE, 2};
        for (int page = 0; page < due.length; page++) {
            Check.same("page " + page, tree.below(page, 1), due[page]);
        }
    }

    @Says(promise = 19, sentence = NO_SUCH_PLACE)
    static void belowRefusesAPlaceBelow0() {
        Highkey tree = posted(4);
        for (int place : new int[] {-1, -2, Integer.MIN_VALUE}) {
            Check.noSuch("of a page above, place " + place, () -> tree.below(2, place));
            Check.noSuch("of a leaf, place " + place, () -> tree.below(0, place));
        }
    }

    @Says(promise = 19, sentence = NO_SUCH_PLACE)
    static void belowRefusesWhereThereIsNoSuchPage() {
        Highkey tree = withRecycledLeaf();
        noSuchPages("below place 0", tree, NO_PAGES, page -> tree.below(page, 0));
        noSuchPages("below place 9", tree, NO_PAGES, page -> tree.below(page, 9));
        noSuchPages("below place -1", tree, NO_PAGES, page -> tree.below(page, -1));
    }

    // ---- promise 20

    @Says(promise = 20, sentence = "Returns the high key of a page.")
    static void theLastPageOfEachLevelHas200() {
        Highkey tree = posted(13);
        Check.same("the last ones", tree.high(4) + " " + tree.high(6) + " " + tree.high(7), "200 200 200");
        Check.same("the others", tree.high(0) + " " + tree.high(3) + " " + tree.high(5), "3 12 9");
    }

    @Says(promise = 20, sentence = "Returns the high key of a page.")
    static void theHighKeyOfALeafFallsAndGrows() {
        Highkey tree = posted(4);
        Check.same("split", tree.high(0), 3);
        Check.takeRange(tree, 3, 4);
        tree.takeOut();
        Check.same("the next one is taken out", tree.high(0), 200);
        Check.same("that one keeps its own", tree.high(1), 200);
    }

    @Says(promise = 20, sentence = HIGH_KEY)
    static void oneLessThanTheHighKeyIsForThePageAndTheHighKeyIsNot() {
        Highkey tree = posted(13);
        for (int leaf = 0; leaf <= 3; leaf++) {
            int high = 3 * leaf + 3;
            Check.same("the high key", tree.high(leaf), high);
            Check.same("one less", tree.leafOf(tree.open(high - 1)), leaf);
            Check.same("the high key itself", tree.leafOf(tree.open(high)), leaf + 1);
        }
    }

    @Says(promise = 20, sentence = "- `page`: the number of a page")
    static void highTakesEveryPageADeadOneToo() {
        Highkey tree = withDeadLeaf();
        int[] due = {6, 6, 9, 200, 200};
        for (int page = 0; page < due.length; page++) {
            Check.same("page " + page, tree.high(page), due[page]);
        }
    }

    @Says(promise = 20, sentence = NO_SUCH_PAGE)
    static void highRefusesWhereThereIsNoSuchPage() {
        Highkey tree = withRecycledLeaf();
        noSuchPages("high", tree, NO_PAGES, tree::high);
    }

    // ---- promise 21

    @Says(promise = 21, sentence = "Returns its number; NONE if there is no right link.")
    static void theLastPageOfEachLevelHasNoRightLink() {
        Check.same("a new tree", new Highkey().right(0), NONE);
        Highkey tree = posted(13);
        Check.same("the last ones", tree.right(4) + " " + tree.right(6) + " " + tree.right(7), "-1 -1 -1");
    }

    @Says(promise = 21, sentence = LINK)
    static void theLinksLeadToPagesOfTheSameLevelFromTheHighKeyOn() {
        Highkey tree = posted(13);
        Check.same("leaves", tree.right(0) + " " + tree.right(1) + " " + tree.right(2) + " " + tree.right(3), "1 2 3 4");
        Check.same("from one page of level 1 to the next", tree.right(5), 6);
        Check.same("its first key", tree.keyAt(tree.right(5), 0), tree.high(5));
    }

    @Says(promise = 21, sentence = LINK)
    static void thePageWithTheHighKey198HasALink() {
        Highkey tree = Check.tree(195, 199);
        Check.same("198", tree.high(0) + " " + tree.right(0), "198 1");
        Check.same("200", tree.high(1) + " " + tree.right(1), "200 -1");
    }

    @Says(promise = 21, sentence = "Returns the page to which the right link of a page leads.")
    static void theLinkOfADeadLeafMayLeadToADeadOne() {
        Highkey tree = posted(10);
        Check.takeRange(tree, 3, 8);
        tree.takeOut();
        tree.takeOut();
        Check.same("to leaf 2, which is dead", tree.right(1) + " " + tree.dead(), "2 2");
        Check.same("to leaf 3", tree.right(2) + " " + tree.right(0), "3 3");
    }

    @Says(promise = 21, sentence = "- `page`: the number of a page")
    static void rightTakesEveryPageADeadOneToo() {
        Highkey tree = withDeadLeaf();
        int[] due = {2, 2, 3, NONE, NONE};
        for (int page = 0; page < due.length; page++) {
            Check.same("page " + page, tree.right(page), due[page]);
        }
    }

    @Says(promise = 21, sentence = NO_SUCH_PAGE)
    static void rightRefusesWhereThereIsNoSuchPage() {
        Highkey tree = withRecycledLeaf();
        noSuchPages("right", tree, NO_PAGES, tree::right);
    }

    @Says(promise = 21, sentence = "A tree of pages with right links")
    static void thePagesOfEachLevelStandInARow() {
        for (int posts = 0; posts <= 25; posts += 5) {
            Highkey tree = Check.tree(0, 60);
            for (int posted = 0; posted < posts && tree.waiting() > 0; posted++) {
                tree.post();
            }
            int seen = 0;
            int first = tree.root();
            for (int level = tree.level(first); level >= 0; level--) {
                seen += pagesInARow(tree, first, level);
                first = tree.below(first, 0);
            }
            Check.same("below the leaves", first, NONE);
            Check.same("all pages, posted " + posts, seen, tree.pages());
        }
    }

    /** How many; each one must have the first key of the next one, which is its low key here, as its high key. */
    private static int pagesInARow(Highkey tree, int first, int level) {
        int count = 0;
        Check.same("the first key", tree.keyAt(first, 0), 0);
        for (int page = first; page != NONE; page = tree.right(page)) {
            int next = tree.right(page);
            Check.same("level of page " + page, tree.level(page), level);
            Check.same("high key of page " + page, tree.high(page), next == NONE ? 200 : tree.keyAt(next, 0));
            count++;
        }
        return count;
    }

    // ---- promise 22

    @Says(promise = 22, sentence = "- `key`: 0 to 199")
    static void linksTakesTheLeastAndTheGreatestKey() {
        Highkey tree = new Highkey();
        Check.same("a new tree", tree.links(0) + " " + tree.links(199), "0 0");
        Check.putRange(tree, 0, 4);
        Check.same("split", tree.links(0) + " " + tree.links(199), "0 1");
    }

    @Says(promise = 22, sentence = "Throws `IllegalArgumentException` if key is out of range")
    static void linksRefusesKeysOutOfRange() {
        Check.noKeys("links", Check.tree(0, 30)::links);
        Check.noKeys("links in an empty tree", new Highkey()::links);
    }

    @Says(promise = 22, sentence = COUNTED)
    static void aLinkIsFollowedForTheHighKeyNotForOneLess() {
        Highkey tree = Check.tree(0, 7);
        Check.same("2 and 3", tree.links(2) + " " + tree.links(3), "0 1");
        Check.same("5 and 6", tree.links(5) + " " + tree.links(6), "1 2");
        tree.post();
        Check.same("one is posted, 2 and 3", tree.links(2) + " " + tree.links(3), "0 0");
        Check.same("one is posted, 5 and 6", tree.links(5) + " " + tree.links(6), "0 1");
    }

    @Says(promise = 22, sentence = COUNTED)
    static void noneIsFollowedWhereAllIsPosted() {
        Highkey tree = posted(13);
        for (int key = 0; key < 200; key++) {
            Check.same("links " + key, tree.links(key), 0);
        }
    }

    @Says(promise = 22, sentence = COUNTED)
    static void linksOfAllLevelsAreCounted() {
        Highkey tree = Check.tree(0, 16);
        for (int posts = 0; posts < 4; posts++) {
            tree.post();
        }
        Check.same("the last in the left half", tree.links(8), 0);
        Check.same("the root's link", tree.links(9) + " " + tree.links(14), "1 1");
        Check.same("the root's and a leaf's", tree.links(15) + " " + tree.links(199), "2 2");
    }

    @Says(promise = 22, sentence = COUNTED)
    static void noLinkIsFollowedPastALeafTakenOut() {
        Highkey tree = withDeadLeaf();
        Check.same("its keys", tree.links(3) + " " + tree.links(5) + " " + tree.links(6), "0 0 0");
    }

    @Says(promise = 22, sentence = GOING_DOWN)
    static void severalLinksAreFollowedInARow() {
        Highkey tree = Check.tree(0, 199);
        Check.same("67 leaves in a row", tree.links(199), 66);
        Check.same("not on to the last one", tree.links(197), 65);
        Check.same("the first one", tree.links(2), 0);
    }

    @Says(promise = 22, sentence = GOING_DOWN)
    static void theLastEntryWhoseKeyIsNotGreaterIsTaken() {
        Highkey tree = posted(10);
        Check.same("four entries", Check.keysOf(tree, tree.root()), "0 3 6 9");
        int[] leaves = {0, 0, 0, 1, 1, 1, 2, 2, 2, 3, 3, 3};
        for (int key = 0; key < leaves.length; key++) {
            Check.same("the leaf for " + key, tree.leafOf(tree.open(key)), leaves[key]);
            Check.same("no link is needed for " + key, tree.links(key), 0);
        }
        Check.same("the leaf for 199", tree.leafOf(tree.open(199)), 3);
    }
}

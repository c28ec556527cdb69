/** The edges of the promises 7 to 9, each sentence with tests of its own. */
public final class SplitsEdgesTest {
    private static final int NONE = Highkey.NONE;
    private static final String TWO_STEPS = "pages split in two steps, so that others may see a split that is half done";
    private static final String UP_TO_4 = "A page of a level above has up to 4 entries, each with a key and a page of the "
            + "level below, by rising keys; the key of the first one is the low key of the page.";
    private static final String SPLITS = "When a leaf would have 5 keys, or a page above 5 entries, it splits: "
            + "the lowest 3 stay, the other 2 go to a new page of that level.";
    private static final String NEW_PAGE = "The low key of the new page is its lowest key (or that of its first entry), "
            + "which becomes the high key of the old page; the new page has the old high key and the old right link, "
            + "and the old page links to the new one.";
    private static final String NEW_ROOT = "To post a split is this: if the new page is of the level of the root, there is a "
            + "new root, of the next level, with two entries: the key 0 with the old root, and the low key of the new page "
            + "with that one; its low key is 0, its high key 200.";
    private static final String NEW_ENTRY = "Otherwise one goes down for the low key of the new page to the next level, and "
            + "that page gets an entry with this key and the new page; it may split by that, which waits to be posted, too.";
    private static final String IN_ORDER = "Splits are posted in the order in which they were made.";

    public static void main(String[] args) {
        Sentences.run(SplitsEdgesTest.class);
    }

    private static void post(Highkey tree, int posts) {
        for (int done = 0; done < posts; done++) {
            tree.post();
        }
    }

    /** Four leaves for the keys from 0, 30, 60 and 90 on, all in one root, the page 4. */
    private static Highkey wideTree() {
        Highkey tree = new Highkey();
        for (int key = 0; key <= 110; key += 10) {
            tree.put(key, key);
        }
        tree.postAll();
        return tree;
    }

    // ---- promise 7

    @Says(promise = 7, sentence = "Returns how many splits wait to be posted.")
    static void noSplitWaitsBeforeTheFifthKey() {
        Highkey tree = new Highkey();
        Check.same("a new tree", tree.waiting(), 0);
        Check.putRange(tree, 0, 3);
        Check.same("four keys", tree.waiting(), 0);
    }

    @Says(promise = 7, sentence = "The split waits to be posted.")
    static void theSplitOfTheFifthKeyWaits() {
        Highkey tree = Check.tree(0, 4);
        Check.same("five keys", tree.waiting(), 1);
        Check.same("the root is a leaf still", tree.root() + " " + tree.level(0), "0 0");
        Check.putRange(tree, 5, 6);
        Check.same("seven keys", tree.waiting(), 1);
        tree.put(7, 0);
        Check.same("eight keys", tree.waiting(), 2);
    }

    @Says(promise = 7, sentence = "Returns how many splits wait to be posted.")
    static void noneWaitsWhenAllArePosted() {
        Highkey tree = Check.tree(0, 7);
        Check.same("two", tree.waiting(), 2);
        tree.post();
        Check.same("one", tree.waiting(), 1);
        tree.post();
        Check.same("none", tree.waiting(), 0);
    }

    @Says(promise = 7, sentence = "Returns how many splits wait to be posted.")
    static void aSplitOfAPageAboveIsCountedToo() {
        Highkey tree = Check.tree(0, 13);
        post(tree, 3);
        Check.same("the last one of the leaves", tree.waiting(), 1);
        tree.post();
        Check.same("the one of their page above", tree.waiting(), 1);
        tree.post();
        Check.same("none", tree.waiting(), 0);
    }

    @Says(promise = 7, sentence = "Returns how many splits wait to be posted.")
    static void aTakenOutLeafOrARefusedPutAddsNoSplit() {
        Highkey tree = Check.tree(0, 7);
        tree.post();
        Check.takeRange(tree, 3, 5);
        Check.same("its right half waits on", tree.takeOut() + " " + tree.waiting(), "1 1");
        Highkey full = Check.tree(0, 3);
        Check.noKey("a wrong value", () -> full.put(4, 10000));
        Check.same("a refused put", full.waiting(), 0);
    }

    @Says(promise = 7, sentence = TWO_STEPS)
    static void aSplitLeafIsSeenBetweenTheSteps() {
        Highkey tree = Check.tree(0, 10);
        tree.postAll();
        Check.putRange(tree, 11, 13);
        Check.same("the new leaf is linked", tree.right(3) + " " + Check.keysOf(tree, 5), "5 12 13");
        Check.same("it stands in no entry", Check.pagesOf(tree, 4) + ", " + tree.links(12), "0 1 2 3, 1");
        tree.post();
        Check.same("it does", Check.pagesOf(tree, tree.right(4)) + ", " + tree.level(tree.right(4)), "3 5, 1");
    }

    @Says(promise = 7, sentence = TWO_STEPS)
    static void aSplitPageAboveIsSeenBetweenTheSteps() {
        Highkey tree = Check.tree(0, 13);
        post(tree, 4);
        Check.same("the new page is linked", tree.right(5) + " " + Check.pagesOf(tree, 6), "6 3 4");
        Check.same("the root is its left half", tree.root() + " " + tree.links(9), "5 1");
        tree.post();
        Check.same("it stands in an entry", Check.pagesOf(tree, tree.root()) + ", " + tree.links(9), "5 6, 0");
    }

    // ---- promise 8

    @Says(promise = 8, sentence = "Throws `IllegalStateException` if none waits")
    static void postRefusesWhereNoneWaits() {
        Highkey tree = new Highkey();
        Check.noneWaits("a new tree", tree::post);
        Check.putRange(tree, 0, 3);
        Check.noneWaits("four keys", tree::post);
        tree.put(4, 0);
        tree.post();
        Check.noneWaits("posted", tree::post);
        Check.putRange(tree, 5, 13);
        tree.postAll();
        Check.noneWaits("all posted", tree::post);
    }

    @Says(promise = 8, sentence = "A call that throws an exception changes nothing")
    static void aRefusedPostChangesNothing() {
        Highkey tree = Check.tree(0, 4);
        tree.post();
        String before = Check.state(tree);
        Check.noneWaits("none waits", tree::post);
        Check.noneWaits("again", tree::post);
        Check.same("state", Check.state(tree), before);
        Check.putRange(tree, 5, 7);
        Check.same("the next one is posted", tree.post(), 0);
    }

    @Says(promise = 8, sentence = "Returns how many wait then.")
    static void postAnswers0ForTheLastOne() {
        Highkey tree = Check.tree(0, 10);
        Check.same("three waited", tree.post() + " " + tree.post() + " " + tree.post(), "2 1 0");
    }

    @Says(promise = 8, sentence = "Returns how many wait then.")
    static void postCountsTheSplitThatItMakes() {
        Highkey tree = Check.tree(0, 13);
        Check.same("four waited", tree.post() + " " + tree.post() + " " + tree.post(), "3 2 1");
        Check.same("the page above splits", tree.post(), 1);
        Check.same("that is posted", tree.post(), 0);
    }

    @Says(promise = 8, sentence = "Posts the split that waits the longest.")
    static void onlyOneIsPosted() {
        Highkey tree = Check.tree(0, 7);
        tree.post();
        Check.same("the first one stands in the root", Check.pagesOf(tree, tree.root()), "0 1");
    }

    @Says(promise = 8, sentence = IN_ORDER)
    static void theOldestIsPostedFirstThoughItsKeyIsTheHighest() {
        Highkey tree = new Highkey();
        for (int key : new int[] {100, 101, 102, 103, 104, 50, 51, 20, 21}) {
            tree.put(key, key);
        }
        Check.same("three wait", tree.waiting(), 3);
        tree.post();
        Check.same("the first", Check.keysOf(tree, tree.root()) + ", " + Check.pagesOf(tree, tree.root()), "0 103, 0 1");
        tree.post();
        Check.same("the second", Check.pagesOf(tree, tree.root()), "0 2 1");
        tree.post();
        Check.same("the third", Check.pagesOf(tree, tree.root()), "0 3 2 1");
    }

    @Says(promise = 8, sentence = IN_ORDER)
    static void theSplitOfAPageAboveWaitsBehindOlderOnes() {
        Highkey tree = Check.tree(0, 16);
        post(tree, 4);
        Check.same("leaf 5 and the page above", tree.waiting(), 2);
        int root = tree.root();
        tree.post();
        Check.same("the leaf came first", tree.root(), root);
        Check.same("into the right half", Check.pagesOf(tree, tree.right(root)), "3 4 5");
        tree.post();
        Check.same("the page above came then", tree.level(tree.root()), 2);
    }

    @Says(promise = 8, sentence = NEW_ROOT)
    static void aRootLeafGetsARootAbove() {
        Highkey tree = Check.tree(0, 4);
        Check.same("none waits then", tree.post(), 0);
        Check.same("the new root", tree.root(), 2);
        Check.same("of the next level", tree.level(2), 1);
        Check.same("entries", Check.keysOf(tree, 2) + ", " + Check.pagesOf(tree, 2), "0 3, 0 1");
        Check.same("high key and link", tree.high(2) + " " + tree.right(2), "200 -1");
    }

    @Says(promise = 8, sentence = NEW_ROOT)
    static void theKey0StandsThereThoughTheOldRootHasHigherKeys() {
        Highkey tree = Check.tree(100, 104);
        tree.post();
        Check.same("entries", Check.keysOf(tree, 2), "0 103");
        Check.same("lower keys are found to be missing", tree.get(0) + " " + tree.get(99), "-1 -1");
        tree.put(0, 7);
        Check.same("and may be put", tree.get(0) + " " + Check.keysOf(tree, 0), "7 0 100 101 102");
    }

    @Says(promise = 8, sentence = NEW_ROOT)
    static void aRootOfLevel1GetsARootAbove() {
        Highkey tree = Check.tree(0, 13);
        post(tree, 4);
        Check.same("of level 1", tree.root() + " " + tree.level(5) + " " + tree.level(6), "5 1 1");
        tree.post();
        Check.same("of level 2", tree.root() + " " + tree.level(7), "7 2");
        Check.same("entries", Check.keysOf(tree, 7) + ", " + Check.pagesOf(tree, 7), "0 9, 5 6");
        Check.same("high key and link", tree.high(7) + " " + tree.right(7), "200 -1");
    }

    @Says(promise = 8, sentence = NEW_ENTRY)
    static void theSecondSplitOfTheOldRootLevelMakesNoRoot() {
        Highkey tree = Check.tree(0, 7);
        post(tree, 1);
        int root = tree.root();
        post(tree, 1);
        Check.same("the same root", tree.root(), root);
        Check.same("an entry more", Check.keysOf(tree, root) + ", " + Check.pagesOf(tree, root), "0 3 6, 0 1 2");
        Check.same("pages", tree.pages(), 4);
    }

    @Says(promise = 8, sentence = NEW_ENTRY)
    static void theEntryGoesOverARightLinkOfTheLevelAbove() {
        Highkey tree = Check.tree(0, 16);
        post(tree, 4);
        Check.same("the root has split", Check.keysOf(tree, 6) + ", " + Check.keysOf(tree, 7), "0 3 6, 9 12");
        tree.post();
        Check.same("the entry is in the right half", Check.keysOf(tree, 6) + ", " + Check.keysOf(tree, 7), "0 3 6, 9 12 15");
    }

    @Says(promise = 8, sentence = NEW_ENTRY)
    static void underARootOfLevel2TheEntryOfALeafGoesToLevel1() {
        Highkey tree = Check.tree(0, 13);
        tree.postAll();
        Check.putRange(tree, 14, 16);
        tree.post();
        Check.same("the root", Check.keysOf(tree, 7) + ", " + Check.pagesOf(tree, 7), "0 9, 5 6");
        Check.same("level 1", Check.keysOf(tree, 6) + ", " + Check.pagesOf(tree, 6), "9 12 15, 3 4 8");
    }

    @Says(promise = 8, sentence = NEW_ENTRY)
    static void underARootOfLevel2TheEntryOfAPageOfLevel1GoesToTheRoot() {
        Highkey tree = Check.tree(0, 13);
        tree.postAll();
        Check.putRange(tree, 14, 22);
        post(tree, 3);
        Check.same("level 1 has split", Check.keysOf(tree, 6) + ", " + Check.keysOf(tree, tree.right(6)), "9 12 15, 18 21");
        Check.same("the root before", Check.keysOf(tree, 7), "0 9");
        Check.same("none waits then", tree.post(), 0);
        Check.same("the root then", tree.root() + ": " + Check.keysOf(tree, 7), "7: 0 9 18");
        Check.same("its last page", tree.below(7, 2), tree.right(6));
    }

    @Says(promise = 8, sentence = NEW_ENTRY)
    static void theEntryHasTheLowKeyThoughThatKeyIsTaken() {
        Highkey tree = Check.tree(0, 7);
        tree.take(3);
        tree.take(6);
        tree.postAll();
        Check.same("the low keys", Check.keysOf(tree, tree.root()), "0 3 6");
    }

    @Says(promise = 8, sentence = NEW_ENTRY)
    static void aFullPageAboveSplitsAndThatWaits() {
        Highkey tree = Check.tree(0, 13);
        post(tree, 3);
        Check.same("four entries", tree.size(5) + " " + tree.pages(), "4 6");
        Check.same("it waits", tree.post(), 1);
        Check.same("the root is the old half still", tree.root(), 5);
        Check.same("a page more", tree.pages(), 7);
    }

    @Says(promise = 8, sentence = UP_TO_4)
    static void fourEntriesStayInOnePage() {
        Highkey tree = Check.tree(0, 10);
        tree.postAll();
        Check.same("entries", Check.keysOf(tree, 4) + ", " + Check.pagesOf(tree, 4), "0 3 6 9, 0 1 2 3");
        Check.same("pages", tree.pages(), 5);
    }

    @Says(promise = 8, sentence = UP_TO_4)
    static void theFirstEntryOfARightHalfHasItsLowKey() {
        Highkey tree = Check.tree(0, 13);
        tree.postAll();
        Check.same("the high key of the left half", tree.high(5), 9);
        Check.same("the first entry of the right half", tree.keyAt(6, 0), 9);
        Check.same("its entry above", tree.keyAt(7, 1) + " " + tree.below(7, 1), "9 6");
    }

    @Says(promise = 8, sentence = SPLITS)
    static void theFifthEntrySplitsWhereverItStands() {
        int[] lows = {10, 40, 70, 100};
        String[] due = {"0 10 30, 60 90", "0 30 40, 60 90", "0 30 60, 70 90", "0 30 60, 90 100"};
        for (int which = 0; which < lows.length; which++) {
            Highkey tree = wideTree();
            int low = lows[which];
            // A leaf with the keys low - 10, low and low + 10 splits before low.
            tree.put(low - 9, 0);
            tree.put(low - 8, 0);
            Check.same("before " + low, Check.keysOf(tree, 4), "0 30 60 90");
            tree.post();
            Check.same("behind " + low, Check.keysOf(tree, 4) + ", " + Check.keysOf(tree, 6), due[which]);
            Check.same("of that level, " + low, tree.level(6), 1);
            Check.same("found there, " + low, tree.get(low) + " " + tree.get(low + 10), low + " " + (low + 10));
        }
    }

    @Says(promise = 8, sentence = NEW_PAGE)
    static void aSplitPageAboveLinksToItsNewHalf() {
        Highkey tree = Check.tree(0, 13);
        post(tree, 4);
        Check.same("high keys", tree.high(5) + " " + tree.high(6), "9 200");
        Check.same("links", tree.right(5) + " " + tree.right(6), "6 -1");
    }

    @Says(promise = 8, sentence = NEW_PAGE)
    static void aPageAboveBetweenOthersKeepsTheOldLinkInItsNewHalf() {
        Highkey tree = wideTree();
        for (int key : new int[] {120, 130, 1, 2, 3, 4, 31, 32}) {
            tree.put(key, key);
        }
        tree.postAll();
        Check.same("all is posted", tree.waiting(), 0);
        int left = tree.below(tree.root(), 0);
        int middle = tree.right(left);
        int last = tree.right(middle);
        Check.same("the old half", Check.keysOf(tree, left) + ", " + tree.high(left), "0 3 10, 30");
        Check.same("the new half", Check.keysOf(tree, middle) + ", " + tree.high(middle), "30 40 60, 90");
        Check.same("the one behind", Check.keysOf(tree, last) + ", " + tree.high(last), "90 120, 200");
        Check.same("no other", tree.right(last), NONE);
    }

    // ---- promise 9

    @Says(promise = 9, sentence = "Returns how many were posted.")
    static void postAllAnswers0WhereNoneWaits() {
        Highkey tree = new Highkey();
        Check.same("a new tree", tree.postAll(), 0);
        Check.putRange(tree, 0, 4);
        Check.same("one", tree.postAll(), 1);
        Check.same("again", tree.postAll(), 0);
        Check.same("pages", tree.pages(), 3);
    }

    @Says(promise = 9, sentence = "Returns how many were posted.")
    static void postAllCountsTheSplitsThatItMakes() {
        Highkey tree = Check.tree(0, 13);
        Check.same("four waited, one came by it", tree.waiting() + " " + tree.postAll(), "4 5");
    }

    @Says(promise = 9, sentence = "Posts splits until none waits.")
    static void noneWaitsBehindPostAll() {
        Highkey tree = Check.tree(0, 199);
        tree.postAll();
        Check.same("waiting", tree.waiting(), 0);
        Check.noneWaits("none waits", tree::post);
        for (int key = 0; key < 200; key++) {
            Check.same("links " + key, tree.links(key), 0);
        }
    }
}

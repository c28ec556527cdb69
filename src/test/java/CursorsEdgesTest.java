import java.util.function.IntConsumer;

/** The edges of the promises 23 to 26, each sentence with tests of its own. */
public final class CursorsEdgesTest {
    private static final int NONE = Highkey.NONE;
    private static final String NUMBERED = "Returns its number; cursors are numbered from 0 in the order in which they are "
            + "opened.";
    private static final String OPENED = "A cursor is opened for a key: it is on the leaf for this key, and its last key is "
            + "one less.";
    private static final String WALKS = "To let it walk is to look for the least key on its leaf that is greater than its "
            + "last key; as long as there is none, it goes on to the leaf of the right link, which may be dead, too.";
    private static final String LAST_KEY = "What is found becomes its last key.";
    private static final String STAYS = "If there is no right link any more, it stays where it is, and nothing is found.";
    private static final String NO_SUCH_CURSOR = "Throws `IndexOutOfBoundsException` if there is no such cursor, or it is "
            + "closed";
    private static final String UNCHANGED = "A call that throws an exception changes nothing";
    private static final String FOUND = "Returns the key that is found; NONE if nothing is.";
    private static final String STILL_OPEN = "Returns how many cursors are open then.";
    // Where the cursors 0 to 2 were opened, and 1 is closed.
    private static final int[] NO_CURSORS = {-1, 1, 3, 19, 20, 21, Integer.MIN_VALUE, Integer.MAX_VALUE};

    public static void main(String[] args) {
        Sentences.run(CursorsEdgesTest.class);
    }

    private static Highkey posted(int last) {
        Highkey tree = Check.tree(0, last);
        tree.postAll();
        return tree;
    }

    private static Highkey withThreeCursors() {
        Highkey tree = posted(7);
        tree.open(0);
        tree.open(3);
        tree.open(6);
        tree.close(1);
        return tree;
    }

    private static Highkey with20Cursors() {
        Highkey tree = Check.tree(0, 4);
        for (int number = 0; number < 20; number++) {
            tree.open(number);
        }
        return tree;
    }

    private static void noSuchCursors(String what, IntConsumer call) {
        for (int cursor : NO_CURSORS) {
            Check.noSuch(what + " " + cursor, () -> call.accept(cursor));
        }
    }

    // ---- promise 23

    @Says(promise = 23, sentence = "- `key`: 0 to 199")
    static void openTakesTheLeastAndTheGreatestKey() {
        Highkey tree = posted(4);
        Check.same("0", tree.leafOf(tree.open(0)), 0);
        Check.same("199", tree.leafOf(tree.open(199)), 1);
    }

    @Says(promise = 23, sentence = "Throws `IllegalArgumentException` if key is out of range")
    static void openRefusesKeysOutOfRange() {
        Check.noKeys("open", Check.tree(0, 30)::open);
        Check.noKeys("open in an empty tree", new Highkey()::open);
    }

    @Says(promise = 23, sentence = "Throws `IllegalStateException` if 20 cursors were opened")
    static void openRefusesThe21stCursor() {
        Highkey tree = with20Cursors();
        Check.noneWaits("the next", () -> tree.open(0));
        Check.noneWaits("and again", () -> tree.open(199));
        Check.same("the last one", tree.leafOf(19), 1);
    }

    @Says(promise = 23, sentence = "Throws `IllegalStateException` if 20 cursors were opened")
    static void openTakesThe20thCursor() {
        Highkey tree = new Highkey();
        for (int number = 0; number < 19; number++) {
            tree.open(0);
        }
        Check.same("the 20th", tree.open(0), 19);
        Check.noneWaits("the 21st", () -> tree.open(0));
    }

    @Says(promise = 23, sentence = "Throws `IllegalStateException` if 20 cursors were opened")
    static void closedCursorsWereOpenedToo() {
        Highkey tree = with20Cursors();
        for (int number = 0; number < 20; number++) {
            tree.close(number);
        }
        Check.noneWaits("though all are closed", () -> tree.open(0));
    }

    @Says(promise = 23, sentence = "if several exceptions apply, the one that its throws clause names first is thrown")
    static void openTellsOfAWrongKeyFirst() {
        Highkey tree = with20Cursors();
        Check.noKeys("20 were opened", tree::open);
    }

    @Says(promise = 23, sentence = UNCHANGED)
    static void aRefusedOpenUsesNoNumber() {
        Highkey tree = new Highkey();
        Check.noKeys("before the first", tree::open);
        Check.same("the first", tree.open(5), 0);
        Check.noKeys("before the second", tree::open);
        Check.same("the second", tree.open(5), 1);
        Check.same("open ones", tree.close(0), 1);
        Highkey full = with20Cursors();
        Check.noneWaits("the 21st", () -> full.open(0));
        Check.same("20 are open", full.close(0), 19);
    }

    @Says(promise = 23, sentence = NUMBERED)
    static void numbersRiseFrom0() {
        Highkey tree = Check.tree(0, 4);
        Check.same("not by the key", tree.open(4) + " " + tree.open(0) + " " + tree.open(4), "0 1 2");
    }

    @Says(promise = 23, sentence = NUMBERED)
    static void aClosedCursorsNumberIsNotUsedAgain() {
        Highkey tree = new Highkey();
        tree.open(0);
        tree.open(0);
        tree.close(0);
        tree.close(1);
        Check.same("the next", tree.open(0), 2);
        Check.noSuch("the first is closed", () -> tree.leafOf(0));
    }

    @Says(promise = 23, sentence = OPENED)
    static void itFindsItsKeyButNoneBelow() {
        Highkey tree = posted(7);
        Check.same("opened for 4", tree.next(tree.open(4)), 4);
        Check.same("opened for the low key of a leaf", tree.next(tree.open(3)), 3);
        Check.same("opened for the last key", tree.next(tree.open(7)), 7);
        tree.take(4);
        Check.same("opened for a key that is not there", tree.next(tree.open(4)), 5);
    }

    @Says(promise = 23, sentence = OPENED)
    static void openedFor0ItFinds0() {
        Highkey tree = new Highkey();
        tree.open(0);
        tree.put(0, 5);
        Check.same("0", tree.next(0), 0);
        Check.same("only once", tree.next(0), NONE);
    }

    @Says(promise = 23, sentence = OPENED)
    static void openedFor199ItFinds199() {
        Highkey tree = Check.tree(196, 199);
        tree.open(199);
        Check.same("199", tree.next(0), 199);
        Check.same("only once", tree.next(0), NONE);
    }

    @Says(promise = 23, sentence = OPENED)
    static void itIsOnTheLeafBehindASplitHalfDone() {
        Highkey tree = Check.tree(0, 7);
        Check.same("2 and 3", tree.leafOf(tree.open(2)) + " " + tree.leafOf(tree.open(3)), "0 1");
        Check.same("5 and 6", tree.leafOf(tree.open(5)) + " " + tree.leafOf(tree.open(6)), "1 2");
        Check.same("199", tree.leafOf(tree.open(199)), 2);
    }

    @Says(promise = 23, sentence = "The leaf for a key is where this comes to at the level 0.")
    static void itIsOnALeafBehindLinksOfTwoLevels() {
        Highkey tree = Check.tree(0, 16);
        for (int posts = 0; posts < 4; posts++) {
            tree.post();
        }
        Check.same("over the root's link and a leaf's", tree.links(15) + " " + tree.leafOf(tree.open(15)), "2 5");
        Check.same("over the root's link", tree.links(14) + " " + tree.leafOf(tree.open(14)), "1 4");
        Check.same("over none", tree.links(8) + " " + tree.leafOf(tree.open(8)), "0 2");
        Check.same("of level 0", tree.level(5) + " " + tree.level(4) + " " + tree.level(2), "0 0 0");
    }

    @Says(promise = 23, sentence = "Opens a cursor.")
    static void openChangesNoKeyAndNoPage() {
        Highkey tree = withThreeCursors();
        String before = Check.state(tree);
        Check.same("the fourth", tree.open(4), 3);
        Check.same("state", Check.state(tree), before);
        Check.same("it is open", tree.leafOf(3), 1);
    }

    // ---- promise 24

    @Says(promise = 24, sentence = "- `cursor`: the number of an open cursor")
    static void nextTakesTheFirstAndThe20thCursor() {
        Highkey tree = with20Cursors();
        Check.same("the first", tree.next(0), 0);
        tree.put(19, 1);
        Check.same("the 20th", tree.next(19), 19);
    }

    @Says(promise = 24, sentence = "Lets a cursor walk.")
    static void onlyThatCursorWalks() {
        Highkey tree = posted(7);
        tree.open(0);
        tree.open(3);
        Check.same("the second", tree.next(1) + " " + tree.next(1) + " " + tree.next(1) + " " + tree.next(1), "3 4 5 6");
        Check.same("where they are", tree.leafOf(0) + " " + tree.leafOf(1), "0 2");
        Check.same("the first", tree.next(0), 0);
        Check.same("no key goes", tree.keys(), 8);
    }

    @Says(promise = 24, sentence = NO_SUCH_CURSOR)
    static void nextRefusesWhereThereIsNoSuchOpenCursor() {
        noSuchCursors("next", withThreeCursors()::next);
        Check.noSuch("a new tree", () -> new Highkey().next(0));
    }

    @Says(promise = 24, sentence = UNCHANGED)
    static void aRefusedNextChangesNothing() {
        Highkey tree = withThreeCursors();
        String before = Check.state(tree);
        noSuchCursors("next", tree::next);
        Check.same("state", Check.state(tree), before);
        Check.same("the open ones", tree.next(0) + " " + tree.next(2), "0 6");
    }

    @Says(promise = 24, sentence = FOUND)
    static void nothingIsFoundInATreeWithoutKeys() {
        Highkey tree = new Highkey();
        tree.open(0);
        tree.open(199);
        Check.same("none", tree.next(0) + " " + tree.next(1), "-1 -1");
    }

    @Says(promise = 24, sentence = FOUND)
    static void nothingIsFoundBehindTheLastKey() {
        Highkey tree = posted(4);
        tree.open(3);
        tree.open(5);
        Check.same("two keys, then none", tree.next(0) + " " + tree.next(0) + " " + tree.next(0), "3 4 -1");
        Check.same("opened behind it", tree.next(1), NONE);
    }

    @Says(promise = 24, sentence = FOUND)
    static void everyKeyIsFoundOnceOverAllLeaves() {
        Highkey tree = Check.tree(0, 13);
        tree.open(0);
        for (int key = 0; key <= 13; key++) {
            Check.same("the next", tree.next(0), key);
        }
        Check.same("none behind", tree.next(0), NONE);
    }

    @Says(promise = 24, sentence = WALKS)
    static void theLeastOfTheGreaterKeysIsFound() {
        Highkey tree = new Highkey();
        for (int key : new int[] {40, 10, 30, 20}) {
            tree.put(key, 1);
        }
        tree.open(11);
        Check.same("20 before 30 and 40", tree.next(0), 20);
        tree.put(21, 1);
        Check.same("21 came between", tree.next(0), 21);
    }

    @Says(promise = 24, sentence = WALKS)
    static void theKeyRightAboveTheLastOneIsFoundAndTheLastOneIsNot() {
        Highkey tree = Check.tree(5, 7);
        tree.open(5);
        Check.same("5", tree.next(0), 5);
        Check.same("6", tree.next(0), 6);
        tree.take(6);
        tree.put(6, 1);
        Check.same("not the 6 that came again", tree.next(0), 7);
    }

    @Says(promise = 24, sentence = WALKS)
    static void keysNotGreaterThanTheLastOneAreNotFound() {
        Highkey tree = new Highkey();
        tree.put(50, 1);
        tree.open(50);
        Check.same("50", tree.next(0), 50);
        tree.put(49, 1);
        Check.same("49 came too late", tree.next(0), NONE);
        tree.put(51, 1);
        Check.same("51 did not", tree.next(0), 51);
    }

    @Says(promise = 24, sentence = WALKS)
    static void emptyLeavesAreWalkedPast() {
        Highkey tree = posted(13);
        tree.open(0);
        Check.takeRange(tree, 1, 11);
        Check.same("0, then past three", tree.next(0) + " " + tree.next(0), "0 12");
        Check.same("on the last leaf", tree.leafOf(0), 4);
    }

    @Says(promise = 24, sentence = WALKS)
    static void itWalksFromADeadLeafOverADeadOne() {
        Highkey tree = posted(10);
        tree.open(3);
        Check.takeRange(tree, 3, 8);
        Check.same("two go", tree.takeOut() + " " + tree.takeOut(), "1 2");
        Check.same("it is on the first of them", tree.leafOf(0) + " " + tree.right(1), "1 2");
        Check.same("behind both", tree.next(0) + " " + tree.leafOf(0), "9 3");
    }

    @Says(promise = 24, sentence = WALKS)
    static void fromADeadLeafItDoesNotSeeKeysThatCameToTheLeafBefore() {
        Highkey tree = posted(7);
        tree.open(3);
        Check.takeRange(tree, 3, 5);
        tree.takeOut();
        tree.put(5, 1);
        Check.same("5 is on leaf 0", Check.keysOf(tree, 0), "0 1 2 5");
        Check.same("past it", tree.next(0), 6);
    }

    @Says(promise = 24, sentence = WALKS)
    static void itFindsKeysThatWentToANewLeaf() {
        Highkey tree = Check.tree(0, 3);
        tree.open(0);
        Check.same("0", tree.next(0), 0);
        Check.putRange(tree, 4, 7);
        for (int key = 1; key <= 7; key++) {
            Check.same("the next", tree.next(0), key);
        }
        Check.same("over two links", tree.leafOf(0), 2);
    }

    @Says(promise = 24, sentence = LAST_KEY)
    static void whatIsFoundIsNotFoundAgain() {
        Highkey tree = new Highkey();
        tree.put(50, 1);
        tree.put(150, 1);
        tree.open(10);
        Check.same("50", tree.next(0), 50);
        tree.take(50);
        tree.put(50, 2);
        tree.put(20, 2);
        Check.same("not 20, not 50", tree.next(0), 150);
    }

    @Says(promise = 24, sentence = LAST_KEY)
    static void eachCursorHasItsOwnLastKey() {
        Highkey tree = Check.tree(0, 3);
        tree.open(0);
        tree.open(0);
        Check.same("the first", tree.next(0) + " " + tree.next(0), "0 1");
        Check.same("the second", tree.next(1), 0);
        Check.same("the first again", tree.next(0), 2);
    }

    @Says(promise = 24, sentence = STAYS)
    static void whereNothingIsFoundItStaysOnTheLastLeaf() {
        Highkey tree = posted(7);
        tree.open(5);
        Check.takeRange(tree, 5, 7);
        Check.same("none", tree.next(0), NONE);
        Check.same("it went on to the last leaf", tree.leafOf(0), 2);
        Check.same("and stays there", tree.next(0) + " " + tree.leafOf(0), "-1 2");
    }

    @Says(promise = 24, sentence = STAYS)
    static void whereNothingIsFoundItsLastKeyStays() {
        Highkey tree = posted(4);
        tree.open(4);
        Check.same("4, then none", tree.next(0) + " " + tree.next(0), "4 -1");
        tree.put(5, 1);
        Check.same("5 came behind it", tree.next(0) + " " + tree.next(0), "5 -1");
        tree.put(199, 1);
        Check.same("199 came, too", tree.next(0), 199);
        tree.put(100, 1);
        Check.same("100 is less", tree.next(0), NONE);
    }

    @Says(promise = 24, sentence = STAYS)
    static void onADeadLastLeafItStaysForGood() {
        Highkey tree = posted(4);
        tree.open(4);
        Check.takeRange(tree, 3, 4);
        tree.takeOut();
        Check.same("dead, without a link", tree.leafOf(0) + " " + tree.right(1), "1 -1");
        tree.put(100, 1);
        Check.same("100 is on leaf 0", Check.keysOf(tree, 0), "0 1 2 100");
        Check.same("none", tree.next(0) + " " + tree.leafOf(0), "-1 1");
        Check.same("the page is held", tree.recycle(), 0);
    }

    @Says(promise = 24, sentence = STAYS)
    static void whatItWentPastIsNotLookedAtAgain() {
        Highkey tree = posted(7);
        tree.open(3);
        Check.takeRange(tree, 3, 7);
        Check.same("none, on leaf 2", tree.next(0) + " " + tree.leafOf(0), "-1 2");
        tree.put(4, 1);
        Check.same("4 came on leaf 1", tree.size(1) + " " + tree.next(0), "1 -1");
    }

    @Says(promise = 24, sentence = "and cursors walk on while keys come and go")
    static void itWalksOnWhileKeysComeAndGo() {
        Highkey tree = posted(7);
        tree.open(0);
        for (int key = 0; key <= 60; key++) {
            Check.same("the next", tree.next(0), key);
            tree.take(key);
            tree.put(key + 8, 1);
            if (key % 3 == 0) {
                tree.postAll();
            } else if (key % 3 == 1) {
                tree.takeOut();
                Check.same("none can be recycled", tree.recycle(), 0);
            }
            Check.same("its leaf is there", tree.level(tree.leafOf(0)), 0);
        }
        Check.same("leaves went behind it", tree.dead() > 9, true);
    }

    // ---- promise 25

    @Says(promise = 25, sentence = "- `cursor`: the number of an open cursor")
    static void leafOfTakesTheFirstAndThe20thCursor() {
        Highkey tree = with20Cursors();
        Check.same("the first and the 20th", tree.leafOf(0) + " " + tree.leafOf(19), "0 1");
    }

    @Says(promise = 25, sentence = NO_SUCH_CURSOR)
    static void leafOfRefusesWhereThereIsNoSuchOpenCursor() {
        noSuchCursors("leafOf", withThreeCursors()::leafOf);
        Check.noSuch("a new tree", () -> new Highkey().leafOf(0));
    }

    @Says(promise = 25, sentence = "Returns the leaf that a cursor is on.")
    static void itIsOnTheLeafOfWhatItFoundUntilItFindsMore() {
        Highkey tree = posted(7);
        tree.open(2);
        Check.same("opened", tree.leafOf(0), 0);
        Check.same("2, the last on leaf 0", tree.next(0) + " " + tree.leafOf(0), "2 0");
        Check.same("3, the first on leaf 1", tree.next(0) + " " + tree.leafOf(0), "3 1");
        Check.same("asked again", tree.leafOf(0), 1);
    }

    @Says(promise = 25, sentence = "Returns the leaf that a cursor is on.")
    static void putTakeAndPostMoveNoCursor() {
        Highkey tree = Check.tree(0, 3);
        tree.open(3);
        tree.put(4, 1);
        Check.same("though 3 is on leaf 1", tree.leafOf(0) + " " + Check.keysOf(tree, 1), "0 3 4");
        tree.postAll();
        Check.same("posted", tree.leafOf(0), 0);
        tree.take(3);
        Check.same("taken", tree.leafOf(0), 0);
        Check.same("it walks", tree.next(0) + " " + tree.leafOf(0), "4 1");
    }

    @Says(promise = 25, sentence = "Returns the number of the leaf, which may be dead.")
    static void theLeafMayBeDead() {
        Highkey tree = posted(7);
        tree.open(4);
        Check.takeRange(tree, 3, 5);
        tree.takeOut();
        Check.same("dead", tree.leafOf(0) + " " + tree.dead(), "1 1");
        tree.recycle();
        Check.same("it is not recycled", tree.leafOf(0) + " " + tree.level(1), "1 0");
        tree.open(4);
        Check.same("one opened now", tree.leafOf(1), 0);
    }

    // ---- promise 26

    @Says(promise = 26, sentence = "- `cursor`: the number of an open cursor")
    static void closeTakesTheFirstAndThe20thCursor() {
        Highkey tree = with20Cursors();
        Check.same("the first and the 20th", tree.close(0) + " " + tree.close(19), "19 18");
    }

    @Says(promise = 26, sentence = NO_SUCH_CURSOR)
    static void closeRefusesWhereThereIsNoSuchOpenCursor() {
        noSuchCursors("close", withThreeCursors()::close);
        Check.noSuch("a new tree", () -> new Highkey().close(0));
        Highkey tree = withThreeCursors();
        tree.close(0);
        Check.noSuch("closed just now", () -> tree.close(0));
        tree.close(2);
        Check.noSuch("the last one closed just now", () -> tree.close(2));
    }

    @Says(promise = 26, sentence = UNCHANGED)
    static void aRefusedCloseClosesNone() {
        Highkey tree = withThreeCursors();
        noSuchCursors("close", tree::close);
        Check.same("two were open", tree.close(0), 1);
        Check.same("the other one is", tree.next(2), 6);
    }

    @Says(promise = 26, sentence = STILL_OPEN)
    static void closeAnswersFrom19DownTo0() {
        Highkey tree = with20Cursors();
        for (int cursor = 19; cursor >= 0; cursor--) {
            Check.same("close " + cursor, tree.close(cursor), cursor);
        }
    }

    @Says(promise = 26, sentence = STILL_OPEN)
    static void theOnlyCursorLeaves0AndLaterOnesCountAlone() {
        Highkey tree = new Highkey();
        tree.open(0);
        Check.same("the only one", tree.close(0), 0);
        tree.open(0);
        tree.open(0);
        Check.same("two came then", tree.close(1), 1);
        Check.same("the last", tree.close(2), 0);
    }

    @Says(promise = 26, sentence = "Closes a cursor.")
    static void onlyThatCursorIsClosed() {
        Highkey tree = posted(7);
        tree.open(0);
        tree.open(3);
        tree.open(6);
        tree.close(1);
        Check.noSuch("next", () -> tree.next(1));
        Check.noSuch("leafOf", () -> tree.leafOf(1));
        Check.same("the others walk on", tree.next(0) + " " + tree.next(2), "0 6");
        Check.same("and are on their leaves", tree.leafOf(0) + " " + tree.leafOf(2), "0 2");
    }
}

/** The edges of the promises 1 to 6, each sentence with tests of its own. */
public final class KeysEdgesTest {
    private static final int NONE = Highkey.NONE;
    private static final String UNCHANGED = "A call that throws an exception changes nothing";
    private static final String SPLITS = "When a leaf would have 5 keys, or a page above 5 entries, it splits: "
            + "the lowest 3 stay, the other 2 go to a new page of that level.";
    private static final String BY_GOING_DOWN = "Returns the value of a key, found by going down.";
    private static final String BY_LEAVES = "Returns the same, found by going along all leaves from the first one.";

    public static void main(String[] args) {
        Sentences.run(KeysEdgesTest.class);
    }

    // ---- promise 1

    @Says(promise = 1, sentence = "Creates a tree without keys.")
    static void aNewTreeHasNoKey() {
        Highkey tree = new Highkey();
        Check.same("keys", tree.keys(), 0);
        for (int key : new int[] {0, 1, 100, 198, 199}) {
            Check.same("get " + key, tree.get(key), NONE);
            Check.same("getByLeaves " + key, tree.getByLeaves(key), NONE);
            Check.same("take " + key, tree.take(key), NONE);
        }
    }

    @Says(promise = 1, sentence = "Creates a tree without keys.")
    static void aNewTreeHasNothingOfAnotherOne() {
        Highkey first = Check.tree(0, 4);
        first.post();
        first.open(0);
        Highkey second = new Highkey();
        Check.same("keys", second.keys(), 0);
        Check.same("pages", second.pages(), 1);
        Check.same("cursor", second.open(0), 0);
        Check.same("keys of the first", first.keys(), 5);
    }

    @Says(promise = 1, sentence = "At first there is the page 0, a leaf with the low key 0 and the high key 200; it is the root.")
    static void atFirstThePage0IsAll() {
        Highkey tree = new Highkey();
        Check.same("pages", tree.pages(), 1);
        Check.same("root", tree.root(), 0);
        Check.same("level", tree.level(0), 0);
        Check.same("size", tree.size(0), 0);
        Check.same("high", tree.high(0), 200);
        Check.same("right", tree.right(0), NONE);
        Check.noSuch("page 1", () -> tree.level(1));
    }

    @Says(promise = 1, sentence = "At first there is the page 0, a leaf with the low key 0 and the high key 200; it is the root.")
    static void atFirstThePage0IsForEveryKey() {
        Highkey tree = new Highkey();
        Check.same("the leaf for 0", tree.leafOf(tree.open(0)), 0);
        Check.same("the leaf for 199", tree.leafOf(tree.open(199)), 0);
        tree.put(0, 1);
        tree.put(199, 1);
        Check.same("keys", Check.keysOf(tree, 0), "0 199");
    }

    @Says(promise = 1, sentence = "The constants: `NONE = -1`: None.")
    static void noneIsMinusOne() {
        Check.same("NONE", Highkey.NONE, -1);
        Check.same("what is answered", new Highkey().get(0), -1);
    }

    @Says(promise = 1, sentence = "An object is used for at most 512 calls after it has been made; what later calls answer is free.")
    static void the512thCallAnswersAsTheFirst() {
        Check.same("get", afterMostCalls().get(198), 3);
        Check.same("keys", afterMostCalls().keys(), 200);
        Check.same("waiting", afterMostCalls().waiting(), 0);
        Check.same("links", afterMostCalls().links(100), 0);
        Check.same("pages", afterMostCalls().pages() > 99, true);
        Check.same("put", afterMostCalls().put(199, 5), 1990);
        Check.same("open", afterMostCalls().open(0), 0);
        Check.noneWaits("post", afterMostCalls()::post);
    }

    /** 511 calls: keys that fall make the most leaves, 99 of them, and pages above them. */
    private static Highkey afterMostCalls() {
        Highkey tree = new Highkey();
        for (int key = 199; key >= 0; key--) {
            tree.put(key, 10 * key);
        }
        for (int key = 0; key < 100; key++) {
            tree.take(2 * key);
        }
        for (int key = 0; key < 100; key++) {
            tree.put(2 * key, 3);
        }
        for (int asked = 0; asked < 110; asked++) {
            Check.same("get " + asked, tree.get(asked), asked % 2 == 0 ? 3 : 10 * asked);
        }
        Check.same("posted", tree.postAll() > 0, true);
        return tree;
    }

    // ---- promise 2

    @Says(promise = 2, sentence = "- `key`: 0 to 199")
    static void putTakesTheLeastAndTheGreatestKey() {
        Highkey tree = new Highkey();
        Check.same("put 0", tree.put(0, 5), NONE);
        Check.same("put 199", tree.put(199, 6), NONE);
        Check.same("what is there", Check.keysOf(tree, 0), "0 199");
        Check.same("values", tree.get(0) + " " + tree.get(199), "5 6");
    }

    @Says(promise = 2, sentence = "- `value`: 0 to 9999")
    static void putTakesTheLeastAndTheGreatestValue() {
        Highkey tree = new Highkey();
        Check.same("put 0", tree.put(7, 0), NONE);
        Check.same("the value 0", tree.get(7), 0);
        Check.same("put 9999", tree.put(7, 9999), 0);
        Check.same("the value 9999", tree.get(7), 9999);
        Check.same("and 0 again", tree.put(7, 0), 9999);
    }

    @Says(promise = 2, sentence = "Keys are 0 to 199, values 0 to 9999.")
    static void everyKeyMayBePut() {
        Highkey tree = new Highkey();
        for (int key = 0; key <= 199; key++) {
            Check.same("put " + key, tree.put(key, 9999 - 50 * key), NONE);
        }
        for (int key = 0; key <= 199; key++) {
            Check.same("get " + key, tree.get(key), 9999 - 50 * key);
        }
    }

    @Says(promise = 2, sentence = "Throws `IllegalArgumentException` if key or value is out of range")
    static void putRefusesKeysOutOfRange() {
        Highkey tree = Check.tree(0, 3);
        Check.noKeys("put", key -> tree.put(key, 0));
        Check.noKeys("put", key -> tree.put(key, 9999));
    }

    @Says(promise = 2, sentence = "Throws `IllegalArgumentException` if key or value is out of range")
    static void putRefusesValuesOutOfRange() {
        Highkey tree = Check.tree(0, 3);
        for (int value : new int[] {-1, 10000, Integer.MIN_VALUE, Integer.MAX_VALUE}) {
            Check.noKey("a new key, " + value, () -> tree.put(100, value));
            Check.noKey("a key that is there, " + value, () -> tree.put(3, value));
        }
    }

    @Says(promise = 2, sentence = "Throws `IllegalArgumentException` if key or value is out of range")
    static void putRefusesKeyAndValueOutOfRange() {
        Highkey tree = new Highkey();
        Check.noKey("below", () -> tree.put(-1, -1));
        Check.noKey("above", () -> tree.put(200, 10000));
    }

    @Says(promise = 2, sentence = UNCHANGED)
    static void aRefusedPutChangesNothing() {
        Highkey tree = Check.tree(0, 3);
        String before = Check.state(tree);
        Check.noKey("a value of a key that is there", () -> tree.put(3, 10000));
        Check.noKey("a key that would split the leaf", () -> tree.put(4, -1));
        Check.noKeys("put", key -> tree.put(key, 0));
        Check.same("state", Check.state(tree), before);
    }

    @Says(promise = 2, sentence = "Puts a key in, or changes its value.")
    static void aChangedValueInAFullLeafSplitsNothing() {
        Highkey tree = Check.tree(0, 3);
        for (int key = 0; key <= 3; key++) {
            Check.same("put " + key, tree.put(key, 7000 + key), 10 * key);
            Check.same("get " + key, tree.get(key), 7000 + key);
        }
        Check.same("keys", Check.keysOf(tree, 0), "0 1 2 3");
        Check.same("pages", tree.pages(), 1);
    }

    @Says(promise = 2, sentence = "Returns the value before; NONE if the key is new.")
    static void theValueBeforeMayBe0() {
        Highkey tree = new Highkey();
        Check.same("new", tree.put(5, 0), NONE);
        Check.same("0 before", tree.put(5, 8), 0);
        Check.same("8 before", tree.put(5, 8), 8);
    }

    @Says(promise = 2, sentence = "Returns the value before; NONE if the key is new.")
    static void aKeyThatWasTakenIsNewAgain() {
        Highkey tree = Check.tree(0, 2);
        tree.take(1);
        Check.same("new again", tree.put(1, 4), NONE);
        Check.same("and there", tree.put(1, 5), 4);
    }

    @Says(promise = 2, sentence = "Returns the value before; NONE if the key is new.")
    static void aKeyThatSplitsTheLeafIsNew() {
        Highkey tree = Check.tree(0, 3);
        Check.same("the fifth", tree.put(4, 1), NONE);
        Check.same("behind the link", tree.put(4, 2), 1);
    }

    @Says(promise = 2, sentence = "A leaf, which is a page of the level 0, has up to 4 keys with their values.")
    static void fourKeysStayInOneLeaf() {
        Highkey tree = new Highkey();
        for (int key : new int[] {199, 0, 150, 20}) {
            tree.put(key, key);
        }
        Check.same("keys", Check.keysOf(tree, 0), "0 20 150 199");
        Check.same("pages", tree.pages(), 1);
        Check.same("waiting", tree.waiting(), 0);
    }

    @Says(promise = 2, sentence = "A leaf, which is a page of the level 0, has up to 4 keys with their values.")
    static void aTakenKeyMakesRoomForAnother() {
        Highkey tree = Check.tree(0, 3);
        tree.take(0);
        tree.put(100, 1);
        Check.same("keys", Check.keysOf(tree, 0), "1 2 3 100");
        Check.same("pages", tree.pages(), 1);
    }

    @Says(promise = 2, sentence = SPLITS)
    static void theFifthKeySplitsWhereverItStands() {
        for (int fifth = 10; fifth <= 50; fifth += 10) {
            Highkey tree = new Highkey();
            for (int key = 10; key <= 50; key += 10) {
                if (key != fifth) {
                    tree.put(key, key + 1);
                }
            }
            tree.put(fifth, fifth + 1);
            Check.same("the lowest 3, " + fifth, Check.keysOf(tree, 0), "10 20 30");
            Check.same("the other 2, " + fifth, Check.keysOf(tree, 1), "40 50");
            Check.same("of that level, " + fifth, tree.level(1), 0);
            for (int key = 10; key <= 50; key += 10) {
                Check.same("value of " + key + ", " + fifth, tree.get(key), key + 1);
            }
        }
    }

    @Says(promise = 2, sentence = SPLITS)
    static void aNewLeafSplitsAtItsFifthKeyToo() {
        Highkey tree = Check.tree(0, 6);
        Check.same("four keys", Check.keysOf(tree, 1), "3 4 5 6");
        tree.put(7, 70);
        Check.same("three stay", Check.keysOf(tree, 1), "3 4 5");
        Check.same("two go", Check.keysOf(tree, 2), "6 7");
        Check.same("pages", tree.pages(), 3);
    }

    @Says(promise = 2, sentence = "The low key of the new page is its lowest key (or that of its first entry), "
            + "which becomes the high key of the old page; the new page has the old high key and the old right link, "
            + "and the old page links to the new one.")
    static void theLastLeafSplitsBelow200() {
        Highkey tree = new Highkey();
        for (int key : new int[] {195, 196, 197, 198, 199}) {
            tree.put(key, 1);
        }
        Check.same("high keys", tree.high(0) + " " + tree.high(1), "198 200");
        Check.same("links", tree.right(0) + " " + tree.right(1), "1 -1");
    }

    @Says(promise = 2, sentence = "The low key of the new page is its lowest key (or that of its first entry), "
            + "which becomes the high key of the old page; the new page has the old high key and the old right link, "
            + "and the old page links to the new one.")
    static void aLeafBetweenOthersSplits() {
        Highkey tree = new Highkey();
        for (int key = 0; key <= 100; key += 10) {
            tree.put(key, 1);
        }
        Check.same("before", tree.right(0) + " " + tree.right(1) + " " + tree.right(2), "1 2 3");
        tree.put(35, 1);
        tree.put(36, 1);
        Check.same("old keys", Check.keysOf(tree, 1), "30 35 36");
        Check.same("new keys", Check.keysOf(tree, 4), "40 50");
        Check.same("high keys", tree.high(1) + " " + tree.high(4), "40 60");
        Check.same("links", tree.right(0) + " " + tree.right(1) + " " + tree.right(4), "1 4 2");
    }

    @Says(promise = 2, sentence = "A page has a low key and a high one: "
            + "it is for the keys from its low one on that are less than its high one.")
    static void theHighKeyGoesToTheNextLeafAndOneLessDoesNot() {
        Highkey tree = new Highkey();
        for (int key = 10; key <= 50; key += 10) {
            tree.put(key, 1);
        }
        tree.take(40);
        tree.put(39, 1);
        tree.put(40, 1);
        Check.same("less than the high key", Check.keysOf(tree, 0), "10 20 30 39");
        Check.same("from the low key on", Check.keysOf(tree, 1), "40 50");
        tree.postAll();
        tree.take(39);
        tree.take(40);
        tree.put(40, 1);
        tree.put(39, 1);
        Check.same("posted, less than the high key", Check.keysOf(tree, 0), "10 20 30 39");
        Check.same("posted, from the low key on", Check.keysOf(tree, 1), "40 50");
    }

    // ---- promise 3

    @Says(promise = 3, sentence = "- `key`: 0 to 199")
    static void takeTakesTheLeastAndTheGreatestKey() {
        Highkey tree = new Highkey();
        tree.put(0, 5);
        tree.put(199, 6);
        Check.same("take 0", tree.take(0), 5);
        Check.same("take 199", tree.take(199), 6);
        Check.same("keys", tree.keys(), 0);
    }

    @Says(promise = 3, sentence = "Throws `IllegalArgumentException` if key is out of range")
    static void takeRefusesKeysOutOfRange() {
        Highkey tree = Check.tree(0, 3);
        Check.noKeys("take", tree::take);
        Check.noKeys("take in an empty tree", new Highkey()::take);
    }

    @Says(promise = 3, sentence = UNCHANGED)
    static void aRefusedTakeChangesNothing() {
        Highkey tree = Check.tree(195, 199);
        tree.put(0, 1);
        String before = Check.state(tree);
        Check.noKeys("take", tree::take);
        Check.same("state", Check.state(tree), before);
    }

    @Says(promise = 3, sentence = "Takes a key out.")
    static void takeLeavesTheOthersOfAFullLeaf() {
        String[] rest = {"1 2 3", "0 2 3", "0 1 3", "0 1 2"};
        for (int taken = 0; taken <= 3; taken++) {
            Highkey tree = Check.tree(0, 3);
            tree.take(taken);
            Check.same("what stays without " + taken, Check.keysOf(tree, 0), rest[taken]);
            for (int key = 0; key <= 3; key++) {
                Check.same("get " + key + " without " + taken, tree.get(key), key == taken ? NONE : 10 * key);
            }
        }
    }

    @Says(promise = 3, sentence = "Takes a key out.")
    static void theLastKeyLeavesAnEmptyLeaf() {
        Highkey tree = Check.tree(0, 4);
        tree.take(3);
        tree.take(4);
        Check.same("size", tree.size(1), 0);
        Check.same("pages", tree.pages(), 2);
        Check.same("links", tree.right(0) + " " + tree.high(0), "1 3");
        Check.same("dead", tree.dead(), 0);
    }

    @Says(promise = 3, sentence = "Returns its value; NONE if it is not there.")
    static void theValueOfATakenKeyMayBe0() {
        Highkey tree = new Highkey();
        tree.put(9, 0);
        Check.same("there", tree.take(9), 0);
        Check.same("not there any more", tree.take(9), NONE);
    }

    @Says(promise = 3, sentence = "Returns its value; NONE if it is not there.")
    static void keysBesideThoseThereAreNotTaken() {
        Highkey tree = new Highkey();
        tree.put(10, 1);
        tree.put(12, 2);
        Check.same("9, 11, 13", tree.take(9) + " " + tree.take(11) + " " + tree.take(13), "-1 -1 -1");
        Check.same("keys", Check.keysOf(tree, 0), "10 12");
        Check.same("an empty tree", new Highkey().take(0), NONE);
    }

    @Says(promise = 3, sentence = "Returns its value; NONE if it is not there.")
    static void aKeyBehindASplitHalfDoneIsTaken() {
        Highkey tree = Check.tree(0, 7);
        Check.same("the first behind a link", tree.take(3), 30);
        Check.same("the last behind two", tree.take(7), 70);
        Check.same("what stays", Check.keysOf(tree, 1) + ", " + Check.keysOf(tree, 2), "4 5, 6");
    }

    // ---- promise 4

    @Says(promise = 4, sentence = "- `key`: 0 to 199")
    static void getTakesTheLeastAndTheGreatestKey() {
        Highkey tree = new Highkey();
        Check.same("not there", tree.get(0) + " " + tree.get(199), "-1 -1");
        tree.put(0, 5);
        tree.put(199, 6);
        Check.same("there", tree.get(0) + " " + tree.get(199), "5 6");
    }

    @Says(promise = 4, sentence = "Throws `IllegalArgumentException` if key is out of range")
    static void getRefusesKeysOutOfRange() {
        Check.noKeys("get", Check.tree(0, 30)::get);
        Check.noKeys("get in an empty tree", new Highkey()::get);
    }

    @Says(promise = 4, sentence = "Returns the value; NONE if the key is not there.")
    static void getTells0FromNone() {
        Highkey tree = new Highkey();
        tree.put(50, 0);
        Check.same("0", tree.get(50), 0);
        Check.same("beside it", tree.get(49) + " " + tree.get(51), "-1 -1");
        tree.take(50);
        Check.same("taken", tree.get(50), NONE);
    }

    @Says(promise = 4, sentence = BY_GOING_DOWN)
    static void getFindsBothSidesOfAHighKey() {
        Highkey tree = Check.tree(0, 13);
        for (int posts = 0; posts <= 5; posts++) {
            for (int key = 0; key <= 13; key++) {
                Check.same("get " + key + ", posted " + posts, tree.get(key), 10 * key);
            }
            Check.same("get 14, posted " + posts, tree.get(14), NONE);
            if (posts < 5) {
                tree.post();
            }
        }
        Check.same("all are posted", tree.waiting(), 0);
    }

    @Says(promise = 4, sentence = BY_GOING_DOWN)
    static void getFindsBehindALeafTakenOut() {
        Highkey tree = Check.tree(0, 7);
        tree.postAll();
        Check.takeRange(tree, 3, 5);
        tree.takeOut();
        Check.same("none of its keys", tree.get(3) + " " + tree.get(5), "-1 -1");
        tree.put(5, 55);
        Check.same("in the leaf before", tree.get(5), 55);
        Check.same("in the leaf behind", tree.get(6) + " " + tree.get(7), "60 70");
    }

    @Says(promise = 4, sentence = "keys are found all the same over the links")
    static void keysAreFoundHoweverManySplitsArePosted() {
        boolean linksWereNeeded = false;
        for (int posts = 0; posts <= 11; posts++) {
            Highkey tree = Check.tree(0, 30);
            for (int posted = 0; posted < posts; posted++) {
                tree.post();
            }
            Check.same("some wait, posted " + posts, tree.waiting() > 0, posts < 11);
            for (int key = 0; key <= 30; key++) {
                linksWereNeeded |= tree.links(key) > 0;
                Check.same("get " + key + ", posted " + posts, tree.get(key), 10 * key);
                Check.same("getByLeaves " + key + ", posted " + posts, tree.getByLeaves(key), 10 * key);
            }
            Check.same("get 31, posted " + posts, tree.get(31), NONE);
        }
        Check.same("links were needed", linksWereNeeded, true);
    }

    // ---- promise 5

    @Says(promise = 5, sentence = "- `key`: 0 to 199")
    static void getByLeavesTakesTheLeastAndTheGreatestKey() {
        Highkey tree = new Highkey();
        Check.same("not there", tree.getByLeaves(0) + " " + tree.getByLeaves(199), "-1 -1");
        tree.put(0, 5);
        tree.put(199, 6);
        Check.same("there", tree.getByLeaves(0) + " " + tree.getByLeaves(199), "5 6");
    }

    @Says(promise = 5, sentence = "Throws `IllegalArgumentException` if key is out of range")
    static void getByLeavesRefusesKeysOutOfRange() {
        Check.noKeys("getByLeaves", Check.tree(0, 30)::getByLeaves);
        Check.noKeys("getByLeaves in an empty tree", new Highkey()::getByLeaves);
    }

    @Says(promise = 5, sentence = "Returns the value; NONE if the key is not there.")
    static void getByLeavesTells0FromNone() {
        Highkey tree = new Highkey();
        tree.put(50, 0);
        Check.same("0", tree.getByLeaves(50), 0);
        Check.same("beside it", tree.getByLeaves(49) + " " + tree.getByLeaves(51), "-1 -1");
        tree.take(50);
        Check.same("taken", tree.getByLeaves(50), NONE);
    }

    @Says(promise = 5, sentence = BY_LEAVES)
    static void theFirstAndTheLastLeafAreGoneAlong() {
        Highkey tree = Check.tree(0, 13);
        tree.postAll();
        Check.same("in the first leaf", tree.getByLeaves(0) + " " + tree.getByLeaves(2), "0 20");
        Check.same("in the last leaf", tree.getByLeaves(12) + " " + tree.getByLeaves(13), "120 130");
        Check.same("behind all", tree.getByLeaves(14) + " " + tree.getByLeaves(199), "-1 -1");
    }

    @Says(promise = 5, sentence = BY_LEAVES)
    static void emptyLeavesAreGonePast() {
        Highkey tree = Check.tree(0, 13);
        tree.postAll();
        Check.takeRange(tree, 0, 11);
        Check.same("behind four empty ones", tree.getByLeaves(12), 120);
        Check.same("what was taken", tree.getByLeaves(0) + " " + tree.getByLeaves(11), "-1 -1");
    }

    @Says(promise = 5, sentence = BY_LEAVES)
    static void deadLeavesAreNotInTheWay() {
        Highkey tree = Check.tree(0, 13);
        tree.postAll();
        Check.takeRange(tree, 3, 8);
        Check.same("taken out", tree.takeOut() + " " + tree.takeOut(), "1 2");
        tree.put(8, 88);
        Check.same("before, in place of, behind them",
                tree.getByLeaves(2) + " " + tree.getByLeaves(8) + " " + tree.getByLeaves(9), "20 88 90");
        Check.same("recycled", tree.recycle(), 2);
        Check.same("still", tree.getByLeaves(2) + " " + tree.getByLeaves(8) + " " + tree.getByLeaves(9), "20 88 90");
    }

    // ---- promise 6

    @Says(promise = 6, sentence = "Returns how many keys there are.")
    static void keysCountsFrom0To200() {
        Highkey tree = new Highkey();
        Check.same("none", tree.keys(), 0);
        Check.putRange(tree, 0, 199);
        Check.same("all", tree.keys(), 200);
        Check.takeRange(tree, 0, 198);
        Check.same("one", tree.keys(), 1);
        tree.take(199);
        Check.same("none again", tree.keys(), 0);
    }

    @Says(promise = 6, sentence = "Returns how many keys there are.")
    static void keysCountsNoChangedValueAndNoMissingKey() {
        Highkey tree = Check.tree(0, 4);
        tree.put(4, 9);
        Check.same("a changed value", tree.keys(), 5);
        tree.take(100);
        Check.same("a key that is not there", tree.keys(), 5);
        Check.noKey("a wrong value", () -> tree.put(100, 10000));
        Check.same("a refused put", tree.keys(), 5);
        tree.take(0);
        Check.noKey("a wrong key", () -> tree.take(200));
        Check.same("a refused take", tree.keys(), 4);
    }

    @Says(promise = 6, sentence = "Returns how many keys there are.")
    static void keysCountsNoSplitAndNoTakenOutLeaf() {
        Highkey tree = Check.tree(0, 7);
        tree.postAll();
        Check.same("posted", tree.keys(), 8);
        Check.takeRange(tree, 3, 5);
        tree.takeOut();
        tree.recycle();
        Check.same("taken out and recycled", tree.keys(), 5);
    }
}

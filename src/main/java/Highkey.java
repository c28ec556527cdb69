import java.util.ArrayList;

/** A tree of pages with right links, whose splits are posted in a step of their own. */
public final class Highkey {
    public static final int NONE = -1;

    private static final int KEYS = 200;
    private static final int VALUES = 10000;
    private static final int MOST_CURSORS = 20;
    private static final int MOST_IN_PAGE = 4;
    private static final int STAY_AT_SPLIT = 3;
    // At most every second put splits a leaf, and at most every second entry a page above: 512 calls
    // make some 256 + 128 + 64 + .. pages at the most, so that within them no page is refused.
    private static final int MOST_PAGES = 1024;

    private final Page[] pageByNumber = new Page[MOST_PAGES];
    private final ArrayList<Page> splitsToPost = new ArrayList<Page>();
    private final Cursor[] cursorByNumber = new Cursor[MOST_CURSORS];
    // The leaf for the key 0 is never taken out: it is the first one in its page of level 1.
    private final Page firstLeaf;
    private Page rootPage;
    private int keyCount;
    private int epochNow;
    private int cursorsOpened;

    public Highkey() {
        firstLeaf = new Page(0, 0, 0, KEYS);
        pageByNumber[0] = firstLeaf;
        rootPage = firstLeaf;
    }

    // ---- keys

    public int put(int key, int value) throws IllegalArgumentException {
        checkKey(key);
        checkValue(value);
        Page leaf = goDown(key, 0);
        int place = leaf.placeOf(key);
        if (place != NONE) {
            return leaf.changeValue(place, value);
        }
        if (addTo(leaf, key, value, null)) {
            keyCount++;
        }
        return NONE;
    }

    public int take(int key) throws IllegalArgumentException {
        checkKey(key);
        Page leaf = goDown(key, 0);
        int place = leaf.placeOf(key);
        if (place == NONE) {
            return NONE;
        }
        int value = leaf.valueIn(place);
        leaf.removeFrom(place);
        keyCount--;
        return value;
    }

    public int get(int key) throws IllegalArgumentException {
        checkKey(key);
        Page leaf = goDown(key, 0);
        return leaf.valueIn(leaf.placeOf(key));
    }

    public int getByLeaves(int key) throws IllegalArgumentException {
        checkKey(key);
        for (Page leaf = firstLeaf; leaf != null; leaf = leaf.right) {
            int place = leaf.placeOf(key);
            if (place != NONE) {
                return leaf.valueIn(place);
            }
        }
        return NONE;
    }

    public int keys() {
        return keyCount;
    }

    // ---- splits

    public int waiting() {
        return splitsToPost.size();
    }

    public int post() throws IllegalStateException {
        if (splitsToPost.isEmpty()) {
            throw new IllegalStateException("no split waits");
        }
        postLongestWaiting();
        return splitsToPost.size();
    }

    public int postAll() {
        int posted = 0;
        // No page waits twice, so that there is never more to post than there are pages.
        while (!splitsToPost.isEmpty() && posted < MOST_PAGES) {
            postLongestWaiting();
            posted++;
        }
        return posted;
    }

    // ---- taking out

    public int takeOut() {
        if (rootPage.level == 0) {
            return NONE;
        }
        for (Page parent = goDown(0, 1); parent != null; parent = parent.right) {
            int place = parent.placeOfEmptyLeaf();
            Page leaf = parent.pageIn(place);
            if (leaf != null) {
                parent.removeFrom(place);
                unlink(leaf);
                return leaf.number;
            }
        }
        return NONE;
    }

    public int recycle() {
        int recycled = 0;
        for (int number = 0; number < pageByNumber.length; number++) {
            Page page = pageByNumber[number];
            if (page != null && page.dead && allOpenedAfter(page.takenOutIn)) {
                pageByNumber[number] = null;
                recycled++;
            }
        }
        return recycled;
    }

    public int dead() {
        int count = 0;
        for (Page page : pageByNumber) {
            if (page != null && page.dead) {
                count++;
            }
        }
        return count;
    }

    public int epoch() {
        return epochNow;
    }

    // ---- pages

    public int pages() {
        int count = 0;
        for (Page page : pageByNumber) {
            if (page != null) {
                count++;
            }
        }
        return count;
    }

    public int root() {
        return rootPage.number;
    }

    public int level(int page) throws IndexOutOfBoundsException {
        return pageOf(page).level;
    }

    public int size(int page) throws IndexOutOfBoundsException {
        return pageOf(page).size;
    }

    public int keyAt(int page, int place) throws IndexOutOfBoundsException {
        Page asked = pageOf(page);
        checkPlace(place);
        return asked.keyIn(place);
    }

    public int below(int page, int place) throws IndexOutOfBoundsException {
        Page asked = pageOf(page);
        checkPlace(place);
        return numberOf(asked.pageIn(place));
    }

    public int high(int page) throws IndexOutOfBoundsException {
        return pageOf(page).high;
    }

    public int right(int page) throws IndexOutOfBoundsException {
        return numberOf(pageOf(page).right);
    }

    public int links(int key) throws IllegalArgumentException {
        checkKey(key);
        int followed = 0;
        Page page = rootPage;
        for (int steps = 0; steps < MOST_PAGES; steps++) {
            Page onward = page.onward(key, 0);
            if (onward == null) {
                return followed;
            }
            if (onward.level == page.level) {
                followed++;
            }
            page = onward;
        }
        return followed;
    }

    // ---- cursors

    public int open(int key) throws IllegalArgumentException, IllegalStateException {
        checkKey(key);
        if (cursorsOpened >= cursorByNumber.length) {
            throw new IllegalStateException("all cursors were opened");
        }
        int number = cursorsOpened;
        cursorByNumber[number] = new Cursor(goDown(key, 0), key - 1, epochNow);
        cursorsOpened++;
        return number;
    }

    public int next(int cursor) throws IndexOutOfBoundsException {
        return cursorOf(cursor).walk();
    }

    public int leafOf(int cursor) throws IndexOutOfBoundsException {
        return cursorOf(cursor).leaf.number;
    }

    public int close(int cursor) throws IndexOutOfBoundsException {
        cursorOf(cursor).closed = true;
        int stillOpen = 0;
        for (Cursor other : cursorByNumber) {
            if (other != null && !other.closed) {
                stillOpen++;
            }
        }
        return stillOpen;
    }

    // ---- what the calls are made of

    private static void checkKey(int key) {
        if (key < 0 || key >= KEYS) {
            throw new IllegalArgumentException("no such key");
        }
    }

    private static void checkValue(int value) {
        if (value < 0 || value >= VALUES) {
            throw new IllegalArgumentException("no such value");
        }
    }

    private static void checkPlace(int place) {
        if (place < 0) {
            throw new IndexOutOfBoundsException("place is below 0");
        }
    }

    private Page pageOf(int number) {
        Page page = number >= 0 && number < pageByNumber.length ? pageByNumber[number] : null;
        if (page == null) {
            throw new IndexOutOfBoundsException("no such page");
        }
        return page;
    }

    private Cursor cursorOf(int number) {
        Cursor cursor = number >= 0 && number < cursorByNumber.length ? cursorByNumber[number] : null;
        if (cursor == null || cursor.closed) {
            throw new IndexOutOfBoundsException("no such open cursor");
        }
        return cursor;
    }

    private static int numberOf(Page page) {
        return page == null ? NONE : page.number;
    }

    private Page goDown(int key, int level) {
        Page page = rootPage;
        // Every step leads to another page, so that there are fewer steps than pages.
        for (int steps = 0; steps < MOST_PAGES; steps++) {
            Page onward = page.onward(key, level);
            if (onward == null) {
                return page;
            }
            page = onward;
        }
        return page;
    }

    private int lowestFreeNumber() {
        for (int number = 0; number < pageByNumber.length; number++) {
            if (pageByNumber[number] == null) {
                return number;
            }
        }
        return NONE;
    }

    /** Adds to a page, which may split by that; answers false if there is no number for the new page. */
    private boolean addTo(Page page, int key, int value, Page child) {
        if (page.size < MOST_IN_PAGE) {
            page.insert(key, value, child);
            return true;
        }
        int number = lowestFreeNumber();
        if (number < 0 || number >= pageByNumber.length) {
            return false;
        }
        page.insert(key, value, child);
        Page made = page.split(number);
        pageByNumber[number] = made;
        splitsToPost.add(made);
        return true;
    }

    private void postLongestWaiting() {
        if (splitsToPost.isEmpty()) {
            return;
        }
        Page made = splitsToPost.remove(0);
        if (made.level == rootPage.level) {
            growRoot(made);
        } else {
            addTo(goDown(made.low, made.level + 1), made.low, NONE, made);
        }
    }

    private void growRoot(Page made) {
        int number = lowestFreeNumber();
        if (number < 0 || number >= pageByNumber.length) {
            return;
        }
        Page grown = new Page(number, rootPage.level + 1, 0, KEYS);
        grown.insert(0, NONE, rootPage);
        grown.insert(made.low, NONE, made);
        pageByNumber[number] = grown;
        rootPage = grown;
    }

    /** Takes a leaf out of the chain of the leaves; cursors on it still find on by its own right link. */
    private void unlink(Page leaf) {
        // From the first leaf on the links lead to no dead one.
        for (Page before = firstLeaf; before != null; before = before.right) {
            if (before.right == leaf) {
                before.high = leaf.high;
                before.right = leaf.right;
                break;
            }
        }
        leaf.dead = true;
        leaf.takenOutIn = epochNow;
        epochNow++;
    }

    private boolean allOpenedAfter(int epoch) {
        for (Cursor cursor : cursorByNumber) {
            if (cursor != null && !cursor.closed && cursor.openedIn <= epoch) {
                return false;
            }
        }
        return true;
    }

    /** A leaf, whose keys have values, or a page above, whose keys have pages below. */
    private static final class Page {
        // One more than a page has, for the moment before it splits.
        static final int ROOM = MOST_IN_PAGE + 1;

        final int number;
        final int level;
        final int low;
        final int[] keys = new int[ROOM];
        final int[] values = new int[ROOM];
        final Page[] children = new Page[ROOM];
        int size;
        int high;
        Page right;
        boolean dead;
        int takenOutIn;

        Page(int number, int level, int low, int high) {
            this.number = number;
            this.level = level;
            this.low = low;
            this.high = high;
        }

        boolean has(int place) {
            return place >= 0 && place < size && place < ROOM;
        }

        int keyIn(int place) {
            return has(place) ? keys[place] : NONE;
        }

        int valueIn(int place) {
            return has(place) ? values[place] : NONE;
        }

        Page pageIn(int place) {
            return has(place) ? children[place] : null;
        }

        int countLess(int bound) {
            int count = 0;
            while (count < size && count < ROOM && keys[count] < bound) {
                count++;
            }
            return count;
        }

        int placeOf(int key) {
            int place = countLess(key);
            return has(place) && keys[place] == key ? place : NONE;
        }

        int leastKeyAbove(int key) {
            return keyIn(countLess(key + 1));
        }

        /** The next page on the way down for a key to a level; null if the way ends here. */
        Page onward(int key, int toLevel) {
            if (key >= high) {
                return right;
            }
            return level > toLevel ? pageIn(countLess(key + 1) - 1) : null;
        }

        int changeValue(int place, int value) {
            if (!has(place)) {
                return NONE;
            }
            int before = values[place];
            values[place] = value;
            return before;
        }

        void insert(int key, int value, Page child) {
            if (size < 0 || size >= ROOM) {
                return;
            }
            int place = countLess(key);
            for (int to = size; to > place; to--) {
                copy(to - 1, to);
            }
            keys[place] = key;
            values[place] = value;
            children[place] = child;
            size++;
        }

        void removeFrom(int place) {
            if (!has(place)) {
                return;
            }
            for (int to = place; to + 1 < size; to++) {
                copy(to + 1, to);
            }
            size--;
        }

        private void copy(int from, int to) {
            if (from < 0 || from >= ROOM || to < 0 || to >= ROOM) {
                return;
            }
            keys[to] = keys[from];
            values[to] = values[from];
            children[to] = children[from];
        }

        /** Moves all but the lowest ones to a new page on the right. */
        Page split(int newNumber) {
            Page made = new Page(newNumber, level, keyIn(STAY_AT_SPLIT), high);
            for (int place = STAY_AT_SPLIT; place < size && place < ROOM; place++) {
                made.insert(keys[place], values[place], children[place]);
            }
            made.right = right;
            size = STAY_AT_SPLIT;
            high = made.low;
            right = made;
            return made;
        }

        /** The place of the first entry behind the first one whose leaf has no keys. */
        int placeOfEmptyLeaf() {
            for (int place = 1; place < size && place < ROOM; place++) {
                Page leaf = children[place];
                if (leaf != null && leaf.size == 0) {
                    return place;
                }
            }
            return NONE;
        }
    }

    private static final class Cursor {
        final int openedIn;
        Page leaf;
        int lastKey;
        boolean closed;

        Cursor(Page leaf, int lastKey, int openedIn) {
            this.leaf = leaf;
            this.lastKey = lastKey;
            this.openedIn = openedIn;
        }

        int walk() {
            for (Page page = leaf; page != null; page = page.right) {
                leaf = page;
                int found = page.leastKeyAbove(lastKey);
                if (found != NONE) {
                    lastKey = found;
                    return found;
                }
            }
            return NONE;
        }
    }
}

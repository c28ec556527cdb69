import java.util.ArrayDeque;
import java.util.ArrayList;
import java.util.List;
import java.util.TreeMap;

/**
 * The document once more, held in another way: live pages stand by their low keys, and high keys and right links
 * follow from that. Only dead leaves have a high key and a link written down.
 */
final class Model {
    private static final int NONE = -1;

    private static final class Page {
        int number;
        int level;
        int low;
        // From keys to values, or to the numbers of pages.
        TreeMap<Integer, Integer> content = new TreeMap<>();
        boolean dead;
        int deadEpoch;
        int deadHigh;
        int deadRight;
    }

    private static final class Cursor {
        int page;
        int last;
        int epoch;
        boolean open = true;
    }

    private final TreeMap<Integer, Page> all = new TreeMap<>();
    private final List<TreeMap<Integer, Page>> levels = new ArrayList<>();
    private final ArrayDeque<Page> queue = new ArrayDeque<>();
    private final List<Cursor> cursors = new ArrayList<>();
    private int epoch = 0;

    Model() {
        make(0, 0);
    }

    private Page make(int level, int low) {
        Page page = new Page();
        page.level = level;
        page.low = low;
        while (all.containsKey(page.number)) {
            page.number++;
        }
        all.put(page.number, page);
        if (levels.size() == level) {
            levels.add(new TreeMap<>());
        }
        levels.get(level).put(low, page);
        return page;
    }

    private Page find(int key, int level) {
        return levels.get(level).floorEntry(key).getValue();
    }

    private void key(int key) {
        if (key < 0 || key > 199) {
            throw new IllegalArgumentException();
        }
    }

    private Page page(int number) {
        if (!all.containsKey(number)) {
            throw new IndexOutOfBoundsException();
        }
        return all.get(number);
    }

    private Cursor cursor(int number) {
        if (number < 0 || number >= cursors.size() || !cursors.get(number).open) {
            throw new IndexOutOfBoundsException();
        }
        return cursors.get(number);
    }

    private static int orNone(Integer number) {
        return number == null ? NONE : number;
    }

    private void add(Page page, int key, int what) {
        page.content.put(key, what);
        if (page.content.size() < 5) {
            return;
        }
        List<Integer> keys = new ArrayList<>(page.content.keySet());
        Page made = make(page.level, keys.get(3));
        for (int moved : keys.subList(3, 5)) {
            made.content.put(moved, page.content.remove(moved));
        }
        queue.add(made);
    }

    int put(int key, int value) {
        key(key);
        if (value < 0 || value > 9999) {
            throw new IllegalArgumentException();
        }
        int before = get(key);
        if (before == NONE) {
            add(find(key, 0), key, value);
        } else {
            find(key, 0).content.put(key, value);
        }
        return before;
    }

    int take(int key) {
        key(key);
        return orNone(find(key, 0).content.remove(key));
    }

    int get(int key) {
        key(key);
        return orNone(find(key, 0).content.get(key));
    }

    int keys() {
        return levels.get(0).values().stream().mapToInt(leaf -> leaf.content.size()).sum();
    }

    int waiting() {
        return queue.size();
    }

    int post() {
        if (queue.isEmpty()) {
            throw new IllegalStateException();
        }
        Page made = queue.remove();
        if (made.level + 1 == levels.size()) {
            int old = root();
            Page top = make(levels.size(), 0);
            top.content.put(0, old);
            top.content.put(made.low, made.number);
        } else {
            add(find(made.low, made.level + 1), made.low, made.number);
        }
        return queue.size();
    }

    int postAll() {
        int posted = 0;
        for (; !queue.isEmpty(); posted++) {
            post();
        }
        return posted;
    }

    int takeOut() {
        for (Page leaf : levels.get(0).values()) {
            if (leaf.content.isEmpty() && levels.size() > 1) {
                Page parent = find(leaf.low, 1);
                boolean stands = orNone(parent.content.get(leaf.low)) == leaf.number;
                if (stands && parent.content.firstKey() < leaf.low) {
                    leaf.deadHigh = high(leaf.number);
                    leaf.deadRight = right(leaf.number);
                    leaf.dead = true;
                    leaf.deadEpoch = epoch++;
                    parent.content.remove(leaf.low);
                    levels.get(0).remove(leaf.low);
                    return leaf.number;
                }
            }
        }
        return NONE;
    }

    int recycle() {
        int before = all.size();
        int oldest = Integer.MAX_VALUE;
        for (Cursor cursor : cursors) {
            oldest = cursor.open ? Math.min(oldest, cursor.epoch) : oldest;
        }
        int limit = oldest;
        all.values().removeIf(page -> page.dead && page.deadEpoch < limit);
        return before - all.size();
    }

    int dead() {
        return (int) all.values().stream().filter(page -> page.dead).count();
    }

    int epoch() {
        return epoch;
    }

    int pages() {
        return all.size();
    }

    int highestNumber() {
        return all.lastKey();
    }

    int root() {
        return levels.get(levels.size() - 1).get(0).number;
    }

    int level(int page) {
        return page(page).level;
    }

    int size(int page) {
        return page(page).content.size();
    }

    int keyAt(int page, int place) {
        List<Integer> keys = new ArrayList<>(page(page).content.keySet());
        if (place < 0) {
            throw new IndexOutOfBoundsException();
        }
        return place < keys.size() ? keys.get(place) : NONE;
    }

    int below(int page, int place) {
        int key = keyAt(page, place);
        return key == NONE || page(page).level == 0 ? NONE : page(page).content.get(key);
    }

    int high(int number) {
        Page page = page(number);
        Integer next = levels.get(page.level).higherKey(page.low);
        return page.dead ? page.deadHigh : next == null ? 200 : next;
    }

    int right(int number) {
        Page page = page(number);
        return page.dead ? page.deadRight : high(number) == 200 ? NONE : find(high(number), page.level).number;
    }

    int links(int key) {
        key(key);
        int links = 0;
        Page page = page(root());
        for (int level = page.level; level >= 0; level--) {
            Page target = find(key, level);
            links += levels.get(level).subMap(page.low, target.low).size();
            page = level == 0 ? target : page(target.content.floorEntry(key).getValue());
        }
        return links;
    }

    int open(int key) {
        key(key);
        if (cursors.size() == 20) {
            throw new IllegalStateException();
        }
        Cursor cursor = new Cursor();
        cursor.page = find(key, 0).number;
        cursor.last = key - 1;
        cursor.epoch = epoch;
        cursors.add(cursor);
        return cursors.size() - 1;
    }

    int next(int number) {
        Cursor cursor = cursor(number);
        Integer found = page(cursor.page).content.higherKey(cursor.last);
        while (found == null && right(cursor.page) != NONE) {
            cursor.page = right(cursor.page);
            found = page(cursor.page).content.higherKey(cursor.last);
        }
        cursor.last = found == null ? cursor.last : found;
        return orNone(found);
    }

    int leafOf(int number) {
        return cursor(number).page;
    }

    int close(int number) {
        cursor(number).open = false;
        return (int) cursors.stream().filter(cursor -> cursor.open).count();
    }
}

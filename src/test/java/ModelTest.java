import java.util.function.IntSupplier;

/** All promises: runs of 512 calls on an object and on the model, which must agree on every answer. */
public final class ModelTest {
    private static final int RUNS = 6000;
    private static final int CALLS = 512;
    // So many calls at the end of a run only ask.
    private static final int ASKED_LAST = 60;
    // Changing calls by their weights: put, take, post, postAll, takeOut, recycle, open, next, close.
    private static final int[][] MIXES = {
        {40, 20, 8, 2, 8, 4, 2, 12, 2},
        {60, 5, 10, 1, 2, 1, 1, 10, 1},
        {25, 40, 5, 5, 15, 3, 2, 8, 2},
        {50, 30, 2, 0, 10, 3, 1, 10, 1},
        {30, 30, 0, 10, 20, 10, 1, 15, 1},
        {90, 5, 0, 1, 0, 0, 1, 5, 1},
        {40, 20, 5, 2, 8, 4, 12, 12, 6},
    };

    private long seed;
    private final Highkey tree = new Highkey();
    private final Model model = new Model();
    private final String run;

    private ModelTest(int run) {
        this.run = "run " + run;
        this.seed = run * 7919L + 17;
    }

    public static void main(String[] args) {
        for (int run = 0; run < RUNS; run++) {
            new ModelTest(run).walk(MIXES[run % MIXES.length], run % 5, 2 + run % 11, run % 13 == 0);
        }
        Check.end("ModelTest");
    }

    private int draw(int bound) {
        seed = seed * 6364136223846793005L + 1442695040888963407L;
        return (int) ((seed >>> 33) % bound);
    }

    /** Keys go up, or down, or stand in a narrow or a wide range, so that leaves fill and empty in many ways. */
    private int drawKey(int call, int kind) {
        int key;
        switch (kind) {
            case 0: key = draw(200); break;
            case 1: key = draw(30) + 85; break;
            case 2: key = Math.min(199, call * 2 / 5 + draw(10)); break;
            case 3: key = Math.max(0, 199 - call * 2 / 5 - draw(10)); break;
            default: key = (call / 40 * 37 + draw(40)) % 200; break;
        }
        return draw(60) == 0 ? draw(2) * 201 - 1 : key;
    }

    private void walk(int[] mix, int kind, int asking, boolean taking) {
        int sum = 0;
        for (int weight : mix) {
            sum += weight;
        }
        for (int call = 0; call < CALLS; call++) {
            int key = drawKey(call, kind);
            if (call >= CALLS - ASKED_LAST || draw(asking) == 0) {
                ask(key);
            } else {
                changeByMix(mix, draw(sum), key, taking && call < CALLS / 2, taking && call >= CALLS / 2);
            }
        }
    }

    /** Some runs put much first and take much then. */
    private void changeByMix(int[] mix, int drawn, int key, boolean putting, boolean taking) {
        int which = 0;
        int left = drawn;
        while (left >= mix[which]) {
            left -= mix[which++];
        }
        if (which <= 1) {
            which = putting ? 0 : taking ? 1 : which;
        }
        change(which, key);
    }

    private void change(int which, int key) {
        int value = draw(50) == 0 ? draw(2) * 10001 - 1 : draw(2) * draw(10000);
        int cursor = draw(draw(8) == 0 ? 22 : 6) - 1;
        switch (which) {
            case 0: same("put " + key + " " + value, () -> tree.put(key, value), () -> model.put(key, value)); break;
            case 1: same("take " + key, () -> tree.take(key), () -> model.take(key)); break;
            case 2: same("post", tree::post, model::post); break;
            case 3: same("postAll", tree::postAll, model::postAll); break;
            case 4: same("takeOut", tree::takeOut, model::takeOut); break;
            case 5: same("recycle", tree::recycle, model::recycle); break;
            case 6: same("open " + key, () -> tree.open(key), () -> model.open(key)); break;
            case 7: same("next " + cursor, () -> tree.next(cursor), () -> model.next(cursor)); break;
            default: same("close " + cursor, () -> tree.close(cursor), () -> model.close(cursor)); break;
        }
    }

    private void ask(int key) {
        int page = draw(model.highestNumber() + 3) - 1;
        int place = draw(7) - 1;
        int cursor = draw(22) - 1;
        switch (draw(18)) {
            case 0: same("keys", tree::keys, model::keys); break;
            case 1: same("waiting", tree::waiting, model::waiting); break;
            case 2: same("dead", tree::dead, model::dead); break;
            case 3: same("epoch", tree::epoch, model::epoch); break;
            case 4: same("pages", tree::pages, model::pages); break;
            case 5: same("root", tree::root, model::root); break;
            case 6: same("level " + page, () -> tree.level(page), () -> model.level(page)); break;
            case 7: same("size " + page, () -> tree.size(page), () -> model.size(page)); break;
            case 8: same("high " + page, () -> tree.high(page), () -> model.high(page)); break;
            case 9: case 10: same("right " + page, () -> tree.right(page), () -> model.right(page)); break;
            case 11: case 12:
                same("keyAt " + page + " " + place, () -> tree.keyAt(page, place), () -> model.keyAt(page, place));
                break;
            case 13:
                same("below " + page + " " + place, () -> tree.below(page, place), () -> model.below(page, place));
                break;
            case 14: same("get " + key, () -> tree.get(key), () -> model.get(key)); break;
            case 15: same("getByLeaves " + key, () -> tree.getByLeaves(key), () -> model.get(key)); break;
            case 16: same("links " + key, () -> tree.links(key), () -> model.links(key)); break;
            default: same("leafOf " + cursor, () -> tree.leafOf(cursor), () -> model.leafOf(cursor)); break;
        }
    }

    private void same(String what, IntSupplier got, IntSupplier want) {
        Check.same(run + ": " + what, answer(got), answer(want));
    }

    private static Object answer(IntSupplier call) {
        try {
            return call.getAsInt();
        } catch (RuntimeException e) {
            return e.getClass();
        }
    }
}

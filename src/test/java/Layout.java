import java.util.HashMap;
import java.util.Map;

/** An object whose buckets a test fills on purpose, with keys of chosen homes by the seed in use. */
final class Layout {
    final CuckooPages x = new CuckooPages();
    private final Map<Integer, Integer> values = new HashMap<>();
    private int seed = 1;

    /** A key that was not given out yet. */
    int key(int first, int second) {
        int key = 0;
        while (values.containsKey(key) || !Keys.hasHomes(key, seed, first, second)) {
            key++;
        }
        values.put(key, 1000 + values.size());
        return key;
    }

    int put(int first, int second, int answer) {
        int key = key(first, second);
        again(key, answer);
        return key;
    }

    /** Puts a key that was given out, with its value. */
    void again(int key, int answer) {
        int first = Keys.home(key, seed, false);
        int second = Keys.home(key, seed, true);
        Check.due("put of a key with homes " + first + " and " + second, x.put(key, values.get(key)), answer);
    }

    /** Puts a key into each empty slot of its first home, 0 first; the others are their second homes. */
    int[] fill(int bucket, int... others) {
        int[] keys = new int[others.length];
        for (int i = 0; i < others.length; i++) {
            keys[i] = put(bucket, others[i], 1);
        }
        return keys;
    }

    /** Two buckets full of keys that have no homes but these two: no path leads out of them. */
    int[] close(int one, int other) {
        fill(other, one, one, one, one);
        return fill(one, other, other, other, other);
    }

    /** Makes the object anew once, and empties it: set 1 and seed 1, which is 2, are in use. */
    void goToSetOne() {
        int[] keys = Keys.withHomes(13, seed, 3, 5);
        Keys.stuffed(x, keys);
        Check.due("put that makes anew", x.put(keys[12], 1), 4);
        Keys.removeAll(x, keys);
        Check.due("the set in use", x.count(4), 1);
        Check.due("the seed in use", x.count(5), 1);
        seed = 2;
    }

    void dueSlot(int page, int slot, int key) {
        String at = "slot " + slot + " of page " + page;
        Check.due(at + " has a key", x.slot(page, slot, 0), 1);
        Check.due(at + ": the key", x.slot(page, slot, 1), key);
        Check.due(at + ": the value", x.slot(page, slot, 2), values.get(key));
    }

    void dueEmpty(int page, int slot) {
        for (int what = 0; what < 3; what++) {
            Check.due("empty slot " + slot + " of page " + page, x.slot(page, slot, what), 0);
        }
    }
}

/** Promises 4, 5 and 11: has, get and reads. */
final class FindTest {
    private FindTest() {
    }

    public static void main(String[] args) {
        wherever();
        oddKeysAndValues();
        behindSyncAndRemove();
        Check.end();
    }

    private static void dueFound(CuckooPages x, int key, int value, int reads) {
        Check.due("has(" + key + ")", x.has(key), true);
        Check.due("get(" + key + ")", x.get(key), value);
        Check.due("reads(" + key + ")", x.reads(key), reads);
    }

    private static void dueMissing(CuckooPages x, int key) {
        Check.due("has(" + key + ")", x.has(key), false);
        Check.due("get(" + key + ")", x.get(key), 0);
        Check.due("reads(" + key + ")", x.reads(key), 3);
    }

    private static void wherever() {
        CuckooPages x = new CuckooPages();
        // the second home is the lower page here: the first home is read first all the same
        int[] keys = Keys.withHomes(13, 1, 6, 2);
        Keys.stuffed(x, keys);
        for (int i = 0; i < 12; i++) {
            dueFound(x, keys[i], 100 + i, i < 4 ? 1 : i < 8 ? 2 : 3);
        }
        dueMissing(x, keys[12]);
        Check.due("writes, none of them by asking", x.count(2), 12);
    }

    private static void oddKeysAndValues() {
        CuckooPages x = new CuckooPages();
        for (int key : new int[] {0, -1, Integer.MIN_VALUE, Integer.MAX_VALUE}) {
            dueMissing(x, key);
            x.put(key, 0);
            dueFound(x, key, 0, 1);
            x.put(key, Integer.MIN_VALUE);
            dueFound(x, key, Integer.MIN_VALUE, 1);
        }
    }

    private static void behindSyncAndRemove() {
        CuckooPages x = new CuckooPages();
        x.put(5, 50);
        dueFound(x, 5, 50, 1);
        x.sync();
        dueFound(x, 5, 50, 1);
        x.remove(5);
        dueMissing(x, 5);
        x.crash(0);
        dueFound(x, 5, 50, 1);
    }
}

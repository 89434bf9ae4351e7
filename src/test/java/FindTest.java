/** Promises 4, 5 and 11: has, get and reads. */
final class FindTest {
    private static final int[] EDGES = {0, 1, -1, Integer.MIN_VALUE, Integer.MAX_VALUE};

    private FindTest() {
    }

    public static void main(String[] args) {
        Check.sentence("has: Whether a KEY is there.", FindTest::whetherItIsThere);
        Check.sentence("has: Whether a KEY is there. (any ints)", FindTest::anyKey);
        Check.sentence("has: Whether a KEY is there. (put, lost and removed)", FindTest::comesAndGoes);
        Check.sentence("get: The VALUE of a KEY", FindTest::theValue);
        Check.sentence("get: 0 if it is not there", FindTest::zeroIfNotThere);
        Check.sentence("reads: its first HOME", FindTest::readsOne);
        Check.sentence("reads: its second one", FindTest::readsTwo);
        Check.sentence("reads: the STASH", FindTest::readsThree);
        Check.sentence("reads: (3 if it is not there)", FindTest::readsAllInVain);
        Check.sentence("has, get, reads: nothing changes", FindTest::nothingChanges);
        Check.end();
    }

    /** The second home is the lower page here: the first home is read first all the same. */
    private static int[] keys() {
        return Keys.withHomes(14, 1, 6, 2);
    }

    private static CuckooPages stuffed() {
        return Keys.stuffed(new CuckooPages(), keys());
    }

    private static void whetherItIsThere() {
        int[] keys = keys();
        CuckooPages x = stuffed();
        for (int i = 0; i < 14; i++) {
            Check.due("has key " + i, x.has(keys[i]), i < 12);
        }
    }

    private static void anyKey() {
        CuckooPages x = new CuckooPages();
        for (int key : EDGES) {
            Check.due("has(" + key + ") before", x.has(key), false);
            x.put(key, 0);
            Check.due("has(" + key + ")", x.has(key), true);
        }
    }

    private static void comesAndGoes() {
        CuckooPages x = new CuckooPages();
        x.put(5, 50);
        x.sync();
        Check.due("has(5)", x.has(5), true);
        x.remove(5);
        Check.due("has(5), removed", x.has(5), false);
        x.crash(0);
        Check.due("has(5), the remove being lost", x.has(5), true);
        x.put(6, 60);
        x.crash(0);
        Check.due("has(6), the put being lost", x.has(6), false);
    }

    private static void theValue() {
        int[] keys = keys();
        CuckooPages x = stuffed();
        for (int i = 0; i < 12; i++) {
            Check.due("get of key " + i, x.get(keys[i]), 100 + i);
            for (int value : EDGES) {
                x.put(keys[i], value);
                Check.due("get of key " + i, x.get(keys[i]), value);
            }
        }
    }

    private static void zeroIfNotThere() {
        CuckooPages x = stuffed();
        Check.due("get of what was never put", x.get(keys()[12]), 0);
        for (int i = 0; i < 12; i++) {
            x.remove(keys()[i]);
            Check.due("get of what was removed", x.get(keys()[i]), 0);
        }
        x.sync();
        x.put(7, 70);
        x.crash(0);
        Check.due("get of what was lost", x.get(7), 0);
        for (int key : EDGES) {
            Check.due("get(" + key + ")", x.get(key), 0);
        }
    }

    private static void dueReads(int from, int pages) {
        CuckooPages x = stuffed();
        for (int i = from; i < from + 4; i++) {
            Check.due("reads of key " + i, x.reads(keys()[i]), pages);
        }
    }

    private static void readsOne() {
        dueReads(0, 1);
        CuckooPages x = new CuckooPages();
        for (int key : EDGES) {
            x.put(key, 0);
            Check.due("reads(" + key + ")", x.reads(key), 1);
        }
    }

    private static void readsTwo() {
        dueReads(4, 2);
        CuckooPages x = stuffed();
        x.remove(keys()[0]);
        Check.due("reads, the first home having room", x.reads(keys()[4]), 2);
    }

    private static void readsThree() {
        dueReads(8, 3);
        CuckooPages x = stuffed();
        for (int i = 0; i < 8; i++) {
            x.remove(keys()[i]);
        }
        Check.due("reads, both homes being empty", x.reads(keys()[11]), 3);
    }

    private static void readsAllInVain() {
        CuckooPages x = new CuckooPages();
        for (int key : EDGES) {
            Check.due("reads(" + key + ")", x.reads(key), 3);
        }
        x.put(keys()[0], 1);
        Check.due("reads, another key being there", x.reads(keys()[1]), 3);
        x.remove(keys()[0]);
        Check.due("reads of what was removed", x.reads(keys()[0]), 3);
        Check.due("reads, all its pages being full", stuffed().reads(keys()[12]), 3);
    }

    private static void nothingChanges() {
        CuckooPages x = stuffed();
        for (int key : keys()) {
            x.has(key);
            x.get(key);
            x.reads(key);
        }
        Check.dueTwins("asking changes nothing", x, stuffed(), 6);
    }
}

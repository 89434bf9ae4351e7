/** Promise 3: put. */
final class PutTest {
    private PutTest() {
    }

    public static void main(String[] args) {
        aKeyThatIsThere();
        atHome();
        pathFromTheFirstHome();
        pathFromTheSecondHome();
        longestPath();
        noLongerPath();
        stash();
        makingAnew();
        makingAnewTakesTheSeedsInTurn();
        full();
        fullOfKeys();
        Check.end();
    }

    private static void dueSlot(CuckooPages x, int page, int slot, int key, int value) {
        String at = "slot " + slot + " of page " + page;
        Check.due(at + " has a key", x.slot(page, slot, 0), 1);
        Check.due(at + ": the key", x.slot(page, slot, 1), key);
        Check.due(at + ": the value", x.slot(page, slot, 2), value);
    }

    private static void aKeyThatIsThere() {
        CuckooPages x = new CuckooPages();
        for (int key : new int[] {0, -7, Integer.MIN_VALUE, Integer.MAX_VALUE}) {
            Check.due("put of " + key, x.put(key, 1), 1);
            Check.due("put of " + key + " again", x.put(key, Integer.MIN_VALUE), 0);
            Check.due("get of " + key, x.get(key), Integer.MIN_VALUE);
            // the same value once more is a write as well
            Check.due("put of " + key + " a third time", x.put(key, Integer.MIN_VALUE), 0);
        }
        Check.due("keys", x.count(0), 4);
        Check.due("writes", x.count(2), 12);
        CuckooPages y = new CuckooPages();
        int[] keys = Keys.withHomes(12, 1, 1, 4);
        Keys.stuffed(y, keys);
        Check.due("put of a key in its second home", y.put(keys[6], 7), 0);
        dueSlot(y, 4, 2, keys[6], 7);
        Check.due("put of a key in the stash", y.put(keys[9], 8), 0);
        dueSlot(y, 8, 1, keys[9], 8);
    }

    private static void atHome() {
        CuckooPages x = new CuckooPages();
        int[] keys = Keys.withHomes(9, 1, 1, 4);
        for (int i = 0; i < 8; i++) {
            Check.due("put at home", x.put(keys[i], i), 1);
            dueSlot(x, i < 4 ? 1 : 4, i % 4, keys[i], i);
        }
        x.remove(keys[6]);
        x.remove(keys[2]);
        x.remove(keys[1]);
        Check.due("put where two slots are empty", x.put(keys[8], 8), 1);
        dueSlot(x, 1, 1, keys[8], 8);
        Check.due("writes", x.count(2), 12);
    }

    /** Buckets 1 and 4 are full; the key in slot 0 of bucket 1 can go on to bucket 6. */
    private static void pathFromTheFirstHome() {
        CuckooPages x = new CuckooPages();
        int[] keys = Keys.withHomes(8, 1, 1, 4);
        int[] mover = Keys.withHomes(1, 1, 1, 6);
        x.put(mover[0], 50);
        for (int i = 0; i < 7; i++) {
            x.put(keys[i], i);
        }
        Check.due("writes before the path", x.count(2), 8);
        Check.due("put by a path", x.put(keys[7], 7), 2);
        dueSlot(x, 1, 0, keys[7], 7);
        dueSlot(x, 6, 0, mover[0], 50);
        Check.due("slots of the path", x.count(7), 2);
        Check.due("writes of the path", x.count(2), 12);
        Check.due("keys", x.count(0), 9);
    }

    /** No path from bucket 1: all its keys stand between 1 and 4; from bucket 4 the first slot moves to 6. */
    private static void pathFromTheSecondHome() {
        CuckooPages x = new CuckooPages();
        int[] mover = Keys.withHomes(1, 1, 4, 6);
        int[] keys = Keys.withHomes(8, 1, 1, 4);
        x.put(mover[0], 50);
        for (int i = 0; i < 7; i++) {
            x.put(keys[i], i);
        }
        // from bucket 1 the path is 1.0, 4.1, 1.2, 4.3, 1.1 and 4.2: it never comes to 4.0
        Check.due("put by a path from the second home", x.put(keys[7], 7), 2);
        dueSlot(x, 4, 0, keys[7], 7);
        dueSlot(x, 6, 0, mover[0], 50);
        Check.due("slots of that path", x.count(7), 2);
    }

    /** The path 1.0, 4.1, 1.2, 4.3, 1.1, 4.2 ends at last, since the key of 4.2 can go on to 6. */
    private static void longestPath() {
        CuckooPages x = new CuckooPages();
        int[] keys = Keys.withHomes(8, 1, 1, 4);
        int[] mover = Keys.withHomes(1, 1, 4, 6);
        for (int i = 0; i < 6; i++) {
            x.put(keys[i], i);
        }
        x.put(mover[0], 50);
        x.put(keys[6], 6);
        Check.due("put by the longest path", x.put(keys[7], 7), 2);
        Check.due("slots of the longest path", x.count(7), 7);
        Check.due("writes with the longest path", x.count(2), 8 + 9);
        dueSlot(x, 1, 0, keys[7], 7);
        dueSlot(x, 4, 1, keys[0], 0);
        dueSlot(x, 1, 2, keys[5], 5);
        dueSlot(x, 4, 3, keys[2], 2);
        dueSlot(x, 1, 1, keys[6], 6);
        dueSlot(x, 4, 2, keys[1], 1);
        dueSlot(x, 6, 0, mover[0], 50);
        dueSlot(x, 1, 3, keys[3], 3);
        dueSlot(x, 4, 0, keys[4], 4);
    }

    /** From bucket 1 only a seventh step would come to 1.3, whose key can go on; from bucket 4 the fourth does. */
    private static void noLongerPath() {
        CuckooPages x = new CuckooPages();
        int[] keys = Keys.withHomes(8, 1, 1, 4);
        int[] mover = Keys.withHomes(1, 1, 1, 6);
        for (int i = 0; i < 3; i++) {
            x.put(keys[i], i);
        }
        x.put(mover[0], 50);
        for (int i = 3; i < 7; i++) {
            x.put(keys[i], i);
        }
        Check.due("put by the path 4.0, 1.1, 4.2, 1.3", x.put(keys[7], 7), 2);
        Check.due("slots of that path, with its end", x.count(7), 5);
        dueSlot(x, 4, 0, keys[7], 7);
        dueSlot(x, 1, 1, keys[3], 3);
        dueSlot(x, 4, 2, keys[1], 1);
        dueSlot(x, 1, 3, keys[5], 5);
        dueSlot(x, 6, 0, mover[0], 50);
        dueSlot(x, 1, 0, keys[0], 0);
    }

    private static void stash() {
        CuckooPages x = new CuckooPages();
        int[] keys = Keys.withHomes(13, 1, 7, 0);
        Keys.stuffed(x, keys);
        for (int i = 0; i < 4; i++) {
            dueSlot(x, 8, i, keys[8 + i], 108 + i);
        }
        x.remove(keys[9]);
        Check.due("put in a stash with an empty slot", x.put(keys[12], 3), 3);
        dueSlot(x, 8, 1, keys[12], 3);
        Check.due("writes, each of one page", x.count(2), 14);
        Check.due("slots of the paths without an end", x.count(7), 0);
    }

    private static void makingAnew() {
        CuckooPages x = new CuckooPages();
        int[] keys = Keys.withHomes(13, 1, 2, 6);
        Keys.stuffed(x, keys);
        x.sync();
        Check.due("put that makes anew", x.put(keys[12], 112), 4);
        Check.due("writes of making anew", x.count(1), 10);
        Check.due("the set", x.count(4), 1);
        Check.due("the seed", x.count(5), 1);
        Check.due("times of making anew", x.count(6), 1);
        for (int i = 0; i < 13; i++) {
            Check.due("get behind making anew", x.get(keys[i]), 100 + i);
        }
        Check.due("keys", x.count(0), 13);
        orderOfMakingAnew(x, keys);
    }

    /** The keys go over page by page and slot by slot, and so they did: 2, 6, the stash, the new one. */
    private static void orderOfMakingAnew(CuckooPages x, int[] keys) {
        CuckooPages y = new CuckooPages();
        y.seed(0, 2);
        for (int i = 0; i < 13; i++) {
            y.put(keys[i], 100 + i);
        }
        for (int place = 0; place < 36; place++) {
            for (int what = 0; what < 3; what++) {
                int got = x.slot(place / 4, place % 4, what);
                Check.due("slot behind making anew", got, y.slot(place / 4, place % 4, what));
            }
        }
    }

    /** Seed 0 is tried neither first nor again: behind seed 2 come 3, 0 and 1. */
    private static void makingAnewTakesTheSeedsInTurn() {
        CuckooPages x = new CuckooPages();
        x.seed(1, 1);
        x.seed(3, 3);
        int[] keys = Keys.withHomes(13, 1, 2, 6);
        Keys.stuffed(x, keys);
        Check.due("put, seed 1 being as seed 0", x.put(keys[12], 1), 4);
        Check.due("the seed in use", x.count(5), 2);
        for (int key : keys) {
            x.remove(key);
        }
        int[] others = Keys.withHomes(13, 3, 2, 6);
        Keys.stuffed(x, others);
        Check.due("put, seed 3 being as seed 2", x.put(others[12], 1), 4);
        Check.due("the seed in use, round", x.count(5), 0);
        Check.due("the set in use, again", x.count(4), 0);
        Check.due("times of making anew", x.count(6), 2);
    }

    private static void full() {
        CuckooPages x = new CuckooPages();
        for (int k = 0; k < 4; k++) {
            x.seed(k, 1);
        }
        int[] keys = Keys.withHomes(13, 1, 2, 6);
        Keys.stuffed(x, keys);
        String before = Check.stateOf(x);
        Check.due("put, all seeds being the same", x.put(keys[12], 1), CuckooPages.FULL);
        Check.dueSame("FULL changes nothing", Check.stateOf(x), before);
        Check.due("put of a key that is there", x.put(keys[11], 1), 0);
        x.remove(keys[0]);
        Check.due("put behind a remove", x.put(keys[12], 1), 1);
    }

    private static void fullOfKeys() {
        CuckooPages x = new CuckooPages();
        int key = 0;
        while (x.count(0) < 36 && key < 100) {
            x.put(key, key);
            key++;
        }
        Check.due("keys at most", x.count(0), 36);
        Check.due("put of the 37th key", x.put(-1, 1), -2);
        Check.due("has the 37th key", x.has(-1), false);
    }
}

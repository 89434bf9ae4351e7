/** Promise 3, put, and under "Terms" the sentences of PUTTING. A PATH and MAKING ANEW have tests of their own. */
final class PutTest {
    private PutTest() {
    }

    public static void main(String[] args) {
        Check.sentence("PUTTING a KEY that is in one of its HOMES (the first)", PutTest::thereInTheFirstHome);
        Check.sentence("PUTTING a KEY that is in one of its HOMES (the second)", PutTest::thereInTheSecondHome);
        Check.sentence("PUTTING a KEY that is in .. the STASH", PutTest::thereInTheStash);
        Check.sentence("its SLOT has the VALUE (a WRITE of that PAGE)", PutTest::thereIsAWrite);
        Check.sentence("the least empty SLOT of the first HOME", PutTest::firstHome);
        Check.sentence("the least empty SLOT .. of the second one", PutTest::secondHome);
        Check.sentence("(a WRITE): in a HOME", PutTest::homeIsAWrite);
        Check.sentence("the first of these that can be: a PATH before the STASH", PutTest::pathBeforeTheStash);
        Check.sentence("the least empty SLOT of the STASH", PutTest::stash);
        Check.sentence("(a WRITE): in the STASH", PutTest::stashIsAWrite);
        Check.sentence("the first of these that can be: the STASH before MAKING ANEW", PutTest::anewBehindTheStash);
        Check.sentence("If none can be: FULL. (all SLOTS have a KEY)", PutTest::fullOfKeys);
        Check.sentence("If none can be: FULL. (SLOTS are empty, but none that helps)", PutTest::fullThoughEmpty);
        Check.sentence("FULL: a KEY that is there can be put", PutTest::fullButThere);
        Check.sentence("FULL: not for good", PutTest::fullForNow);
        Check.sentence("0 if the KEY was there, 1 in a HOME at once, 2 by a PATH, 3 in the STASH, 4 by MAKING ANEW;"
            + " or FULL", PutTest::answers);
        Check.sentence("put: any ints", PutTest::anyInts);
        Check.end();
    }

    private static void thereInTheFirstHome() {
        Layout at = new Layout();
        int[] one = at.fill(1, 4, 4, 4);
        at.x.remove(one[0]);
        // slot 0 is empty and comes before the key's own slot, which it keeps all the same
        Check.due("put of a key that is there", at.x.put(one[1], 7), 0);
        Check.due("the key", at.x.slot(1, 1, 1), one[1]);
        Check.due("the value", at.x.slot(1, 1, 2), 7);
        at.dueEmpty(1, 0);
        Check.due("keys", at.x.count(0), 2);
    }

    private static void thereInTheSecondHome() {
        Layout at = new Layout();
        int[] one = at.fill(1, 4, 4, 4, 4);
        int key = at.put(1, 4, 1);
        at.x.remove(one[0]);
        Check.due("put of a key that is there, its first home having room", at.x.put(key, 7), 0);
        Check.due("the key", at.x.slot(4, 0, 1), key);
        Check.due("the value", at.x.slot(4, 0, 2), 7);
        at.dueEmpty(1, 0);
        Check.due("keys", at.x.count(0), 4);
    }

    private static void thereInTheStash() {
        Layout at = new Layout();
        int[] one = at.close(1, 4);
        at.put(1, 4, 3);
        int key = at.put(1, 4, 3);
        Keys.removeAll(at.x, one);
        Check.due("put of a key that is there, its first home being empty", at.x.put(key, 7), 0);
        Check.due("the key", at.x.slot(8, 1, 1), key);
        Check.due("the value", at.x.slot(8, 1, 2), 7);
        at.dueEmpty(1, 0);
        Check.due("keys in the stash", at.x.count(3), 2);
        Check.due("keys", at.x.count(0), 6);
    }

    private static void thereIsAWrite() {
        int[] keys = Keys.withHomes(12, 1, 1, 4);
        CuckooPages x = Keys.stuffed(new CuckooPages(), keys);
        x.sync();
        for (int i = 0; i < 12; i += 3) {
            Check.due("put of a key that is there", x.put(keys[i], -i), 0);
            Check.due("put of the value that it has", x.put(keys[i], -i), 0);
            Check.due("writes that wait", x.count(1), 2);
            Check.due("crash", x.crash(1), 1);
            Check.due("get behind the first write", x.get(keys[i]), -i);
        }
    }

    private static void firstHome() {
        Layout at = new Layout();
        int[] one = at.fill(1, 4, 4, 4, 4);
        for (int slot = 0; slot < 4; slot++) {
            at.dueSlot(1, slot, one[slot]);
        }
        at.x.remove(one[3]);
        at.x.remove(one[1]);
        at.dueSlot(1, 1, at.put(1, 4, 1));
        at.dueEmpty(1, 3);
        at.dueSlot(1, 3, at.put(1, 4, 1));
        at.dueEmpty(4, 0);
    }

    private static void secondHome() {
        Layout at = new Layout();
        int[] four = at.fill(4, 6, 6, 6, 6);
        at.fill(1, 4, 4, 4, 4);
        at.x.remove(four[3]);
        at.x.remove(four[2]);
        at.dueSlot(4, 2, at.put(1, 4, 1));
        at.dueEmpty(4, 3);
        at.dueSlot(4, 3, at.put(1, 4, 1));
        Check.due("keys", at.x.count(0), 8);
    }

    private static void homeIsAWrite() {
        Layout at = new Layout();
        int[] keys = new int[8];
        for (int i = 0; i < 8; i++) {
            keys[i] = at.put(1, 4, 1);
            Check.due("writes that wait", at.x.count(1), i + 1);
        }
        Check.due("crash", at.x.crash(6), 2);
        for (int i = 0; i < 8; i++) {
            Check.due("has key " + i, at.x.has(keys[i]), i < 6);
        }
    }

    private static void pathBeforeTheStash() {
        Layout at = new Layout();
        int[] one = at.fill(1, 6, 4, 4, 4);
        at.fill(4, 1, 1, 1, 1);
        at.dueSlot(1, 0, at.put(1, 4, 2));
        at.dueSlot(6, 0, one[0]);
        Check.due("keys in the stash", at.x.count(3), 0);
    }

    private static void stash() {
        Layout at = new Layout();
        at.close(7, 0);
        int[] stash = new int[4];
        for (int slot = 0; slot < 4; slot++) {
            stash[slot] = at.put(7, 0, 3);
            at.dueSlot(8, slot, stash[slot]);
        }
        at.x.remove(stash[2]);
        at.x.remove(stash[1]);
        at.dueSlot(8, 1, at.put(7, 0, 3));
        at.dueEmpty(8, 2);
        Check.due("slots of the paths without an end", at.x.count(7), 0);
    }

    private static void stashIsAWrite() {
        Layout at = new Layout();
        at.close(7, 0);
        at.x.sync();
        int kept = at.put(7, 0, 3);
        int lost = at.put(7, 0, 3);
        Check.due("writes that wait", at.x.count(1), 2);
        Check.due("crash", at.x.crash(1), 1);
        Check.due("has what was put first", at.x.has(kept), true);
        Check.due("has what was put second", at.x.has(lost), false);
    }

    private static void anewBehindTheStash() {
        int[] keys = Keys.withHomes(13, 1, 2, 6);
        CuckooPages x = Keys.stuffed(new CuckooPages(), keys);
        Check.due("times of making anew, the stash just full", x.count(6), 0);
        Check.due("put, the stash being full", x.put(keys[12], 1), 4);
        Check.due("times of making anew", x.count(6), 1);
        Check.due("get", x.get(keys[12]), 1);
    }

    private static CuckooPages with36Keys() {
        CuckooPages x = new CuckooPages();
        int keys = 0;
        for (int key = 0; keys < 36 && key < 100; key++) {
            if (x.put(key, key) != CuckooPages.FULL) {
                keys++;
            }
        }
        Check.due("keys at the most", x.count(0), 36);
        return x;
    }

    private static void fullOfKeys() {
        CuckooPages x = with36Keys();
        String before = Check.stateOf(x);
        for (int key = 100; key < 140; key++) {
            Check.due("put of a 37th key", x.put(key, 1), -2);
            Check.due("has the 37th key", x.has(key), false);
        }
        Check.dueSame("36 keys, none of them moved", Check.stateOf(x), before);
    }

    private static CuckooPages withOneSeedOnly() {
        CuckooPages x = new CuckooPages();
        for (int k = 1; k < 4; k++) {
            x.seed(k, 1);
        }
        return x;
    }

    private static void fullThoughEmpty() {
        int[] keys = Keys.withHomes(14, 1, 2, 6);
        CuckooPages x = Keys.stuffed(withOneSeedOnly(), keys);
        Check.due("put, all seeds being the same", x.put(keys[12], 1), CuckooPages.FULL);
        Check.due("put of another one", x.put(keys[13], 1), CuckooPages.FULL);
        Check.due("keys", x.count(0), 12);
        int[] elsewhere = Keys.withHomes(1, 1, 3, 5);
        Check.due("put into other buckets", x.put(elsewhere[0], 1), 1);
    }

    private static void fullButThere() {
        int[] keys = Keys.withHomes(13, 1, 2, 6);
        CuckooPages x = Keys.stuffed(withOneSeedOnly(), keys);
        Check.due("put of one key more", x.put(keys[12], 1), -2);
        for (int i = 0; i < 12; i++) {
            Check.due("put of a key that is there", x.put(keys[i], i), 0);
            Check.due("get", x.get(keys[i]), i);
        }
    }

    private static void fullForNow() {
        int[] keys = Keys.withHomes(14, 1, 2, 6);
        CuckooPages x = Keys.stuffed(withOneSeedOnly(), keys);
        Check.due("put of one key more", x.put(keys[12], 1), -2);
        x.remove(keys[9]);
        Check.due("put, the stash having room", x.put(keys[12], 1), 3);
        Check.due("put of one key more, again", x.put(keys[13], 1), -2);
        x.remove(keys[5]);
        Check.due("put, a home having room", x.put(keys[13], 1), 1);
    }

    /** Buckets 1 and 4 are closed but for the key of 1.0, which can go on to 6 once. */
    private static void answers() {
        Layout at = new Layout();
        int mover = at.fill(1, 6, 4, 4, 4)[0];
        at.fill(4, 1, 1, 1, 1);
        at.put(1, 4, 2);
        for (int i = 0; i < 4; i++) {
            at.put(1, 4, 3);
        }
        at.put(1, 4, 4);
        at.again(mover, 0);
        Check.due("put of a 37th key", with36Keys().put(-1, 1), -2);
    }

    private static void anyInts() {
        CuckooPages x = new CuckooPages();
        int[] edges = {0, 1, -1, Integer.MIN_VALUE, Integer.MAX_VALUE};
        for (int key : edges) {
            Check.due("put of " + key, x.put(key, 1), 1);
            for (int value : edges) {
                Check.due("put of " + key + " again", x.put(key, value), 0);
                Check.due("get of " + key, x.get(key), value);
            }
        }
        Check.due("keys", x.count(0), edges.length);
    }
}

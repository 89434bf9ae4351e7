/** Under "Terms": the sentences of MAKING ANEW. */
final class AnewTest {
    /** Seeds so far apart that there are keys which crowd by any of them; by 1, 2, 3 and 4 at once none do. */
    private static final int[] SEEDS = {1, 1000003, -77777777, 0x5BD1E995};

    private AnewTest() {
    }

    public static void main(String[] args) {
        Check.sentence("for SEEDS behind the one in use, round", AnewTest::seedsBehindTheOneInUse);
        Check.sentence("the three others", AnewTest::notTheOneInUse);
        Check.sentence("the three others (all of them)", AnewTest::noneOfAll);
        Check.sentence("into an empty SET (what it had before is gone)", AnewTest::intoAnEmptySet);
        Check.sentence("into an empty SET (for each SEED)", AnewTest::emptyForEachSeed);
        Check.sentence("all there is (PAGE by PAGE, SLOT by SLOT), and then the KEY put", AnewTest::inThisOrder);
        Check.sentence("are PUT as above (by a PATH, into the STASH)", AnewTest::putAsAbove);
        Check.sentence("but without MAKING ANEW", AnewTest::withoutMakingAnew);
        Check.sentence("the first SEED with which all of them can be (just)", AnewTest::justCanBe);
        Check.sentence("the first SEED with which all of them can be (but for the KEY put)", AnewTest::justCanNotBe);
        Check.sentence("the other SET has that", AnewTest::theOtherSet);
        Check.sentence("its nine PAGES, a WRITE each", AnewTest::ninePages);
        Check.sentence("then the ROOT tells it, and the SEED (a WRITE)", AnewTest::rootComesLast);
        Check.sentence("MAKING ANEW over what a CRASH has left of one", AnewTest::overWhatWasLost);
        Check.end();
    }

    /** So many of the seeds, from seed k on, round. */
    private static int[] seedsFrom(int k, int many) {
        int[] seeds = new int[many];
        for (int i = 0; i < many; i++) {
            seeds[i] = SEEDS[(k + i) % 4];
        }
        return seeds;
    }

    /** An empty object that has seed k in use. */
    private static CuckooPages withSeedInUse(int k) {
        CuckooPages x = new CuckooPages();
        for (int i = 0; i < 4; i++) {
            x.seed(i, SEEDS[i]);
        }
        if (k > 0) {
            int[] keys = Keys.crowded(13, seedsFrom(0, k));
            Keys.stuffed(x, keys);
            Check.due("put that makes anew", x.put(keys[12], 1), 4);
            Keys.removeAll(x, keys);
        }
        Check.due("the seed in use", x.count(5), k);
        return x;
    }

    private static void seedsBehindTheOneInUse() {
        for (int used = 0; used < 4; used++) {
            for (int step = 1; step <= 3; step++) {
                // no seed before that one can help
                int[] keys = Keys.crowded(13, seedsFrom(used, step));
                CuckooPages x = Keys.stuffed(withSeedInUse(used), keys);
                Check.due("put that makes anew", x.put(keys[12], 1), 4);
                Check.due("seed in use, " + step + " behind " + used, x.count(5), (used + step) % 4);
                Check.due("keys", x.count(0), 13);
            }
        }
    }

    /** The stash is full of keys that could be at home by now: the seed in use would do, but is not tried again. */
    private static void notTheOneInUse() {
        CuckooPages x = new CuckooPages();
        for (int k = 1; k < 4; k++) {
            x.seed(k, 2);
        }
        int[] old = Keys.crowded(12, 1, 2);
        Keys.stuffed(x, old);
        for (int i = 0; i < 4; i++) {
            x.remove(old[i]);
        }
        int put = 0;
        int found = 0;
        for (int key = 0; found < 9; key++) {
            if (Keys.hasHomes(key, 1, 1, 4) && Keys.isCrowded(key, 2)) {
                found++;
                put = key;
                Check.due("put of key " + found + " with homes 1 and 4", x.put(key, 1), found < 9 ? 1 : -2);
            }
        }
        Check.due("the seed in use", x.count(5), 0);
        Check.due("times of making anew", x.count(6), 0);
        x.remove(old[11]);
        Check.due("put, the stash having room", x.put(put, 1), 3);
    }

    private static void noneOfAll() {
        int[] keys = Keys.crowded(13, SEEDS);
        for (int used = 0; used < 4; used++) {
            CuckooPages x = Keys.stuffed(withSeedInUse(used), keys);
            Check.due("put, no seed being of help", x.put(keys[12], 1), CuckooPages.FULL);
            Check.due("the seed in use", x.count(5), used);
            Check.due("keys", x.count(0), 12);
        }
    }

    /** All keys there are, as a walk through the slots meets them. */
    private static int[] keysBySlots(CuckooPages x) {
        int[] keys = new int[x.count(0)];
        int found = 0;
        for (int place = 0; place < 36; place++) {
            if (x.slot(place / 4, place % 4, 0) == 1) {
                keys[found++] = x.slot(place / 4, place % 4, 1);
            }
        }
        return keys;
    }

    /** The slots of a new object with this seed, into which these keys are put in this order, and then one key more. */
    private static String slotsBy(int seed, int[] keys, int last) {
        CuckooPages x = new CuckooPages();
        x.seed(0, seed);
        for (int key : keys) {
            x.put(key, -key);
        }
        x.put(last, -last);
        Check.due("times of making anew of the other object", x.count(6), 0);
        return Check.slotsOf(x);
    }

    /** Puts thirteen keys that crowd, so that the object is made anew, and looks at all slots of the new set. */
    private static void dueAnew(CuckooPages x, int[] keys, int newSeed) {
        for (int i = 0; i < 12; i++) {
            x.put(keys[i], -keys[i]);
        }
        String due = slotsBy(newSeed, keysBySlots(x), keys[12]);
        Check.due("put that makes anew", x.put(keys[12], -keys[12]), 4);
        Check.due("keys", x.count(0), 13);
        Check.dueSame("slots behind making anew", Check.slotsOf(x), due);
    }

    /** Set 0 still has its old keys when it is the other set again, and then set 1 has. */
    private static void intoAnEmptySet() {
        Layout at = new Layout();
        at.goToSetOne();
        int[] keys = Keys.withHomes(13, 2, 2, 6);
        dueAnew(at.x, keys, 3);
        Check.due("the set", at.x.count(4), 0);
        Keys.removeAll(at.x, keys);
        dueAnew(at.x, Keys.withHomes(13, 3, 2, 6), 4);
        Check.due("the set", at.x.count(4), 1);
    }

    /** By seed 1 twelve of the keys find room before it fails: seed 2 must not meet them. */
    private static void emptyForEachSeed() {
        CuckooPages x = new CuckooPages();
        dueAnew(x, Keys.crowded(13, 1, 2), 3);
        Check.due("the seed", x.count(5), 2);
    }

    /** So many keys with the homes 6 and 2 by seed 1, and crowded on the lower four buckets by seed 2. */
    private static int[] keysWhoseOrderCounts(int many) {
        int[] keys = new int[many];
        int found = 0;
        for (int key = 1; found < many; key++) {
            boolean low = Keys.home(key, 2, false) < 4 && Keys.home(key, 2, true) < 4;
            if (low && Keys.hasHomes(key, 1, 6, 2)) {
                keys[found++] = key;
            }
        }
        return keys;
    }

    /** Page 6 is filled before page 2, and its slot 1 behind all others: the order of the puts is another one. */
    private static void inThisOrder() {
        int[] keys = keysWhoseOrderCounts(14);
        CuckooPages x = new CuckooPages();
        for (int i = 0; i < 12; i++) {
            x.put(keys[i], -keys[i]);
        }
        x.remove(keys[1]);
        Check.due("put into 6.1", x.put(keys[12], -keys[12]), 1);
        int[] bySlots = keysBySlots(x);
        Check.due("put that makes anew", x.put(keys[13], -keys[13]), 4);
        String slots = Check.slotsOf(x);
        Check.dueSame("slots behind making anew", slots, slotsBy(2, bySlots, keys[13]));

        int[] byPuts = keys.clone();
        System.arraycopy(keys, 2, byPuts, 1, 11);
        int[] putFirst = new int[12];
        putFirst[0] = keys[13];
        System.arraycopy(bySlots, 0, putFirst, 1, 11);
        Check.due("the order of the puts would tell", slots.equals(slotsBy(2, byPuts, keys[13])), false);
        Check.due("the key put, if it were first, would tell", slots.equals(slotsBy(2, putFirst, bySlots[11])), false);
    }

    /** By seed 1, too, the keys crowd on 2 and 6, but for the first one, which a path moves on to 7. */
    private static int[] keysWithOneWayOut(int many) {
        int[] keys = new int[many];
        int found = 0;
        for (int key = 0; found < many; key++) {
            boolean fits = found == 0 ? Keys.hasHomes(key, 2, 2, 7) : Keys.hasHomes(key, 2, 2, 6);
            if (fits && Keys.hasHomes(key, 1, 2, 6)) {
                keys[found++] = key;
            }
        }
        return keys;
    }

    private static void putAsAbove() {
        int[] keys = keysWithOneWayOut(13);
        CuckooPages x = Keys.stuffed(new CuckooPages(), keys);
        Check.due("put that makes anew", x.put(keys[12], 112), 4);
        Check.due("the key of 2.0 has gone on to 7", x.slot(7, 0, 1), keys[0]);
        Check.due("2.0 has the key put by the path", x.slot(2, 0, 1), keys[8]);
        for (int slot = 0; slot < 4; slot++) {
            Check.due("the stash", x.slot(8, slot, 1), keys[9 + slot]);
            Check.due("its value", x.slot(8, slot, 2), 109 + slot);
        }
    }

    /** Seed 1 fails amid the keys: seed 2, which is tried from the first key on again, makes all anew, and once. */
    private static void withoutMakingAnew() {
        int[] keys = Keys.crowded(13, 1, 2);
        CuckooPages x = Keys.stuffed(new CuckooPages(), keys);
        x.sync();
        Check.due("put that makes anew", x.put(keys[12], 112), 4);
        Check.due("times of making anew", x.count(6), 1);
        Check.due("writes", x.count(1), 10);
        Check.due("the set", x.count(4), 1);
        for (int i = 0; i < 13; i++) {
            Check.due("get", x.get(keys[i]), 100 + i);
        }
    }

    /** Thirteen keys crowd by seed 0; twelve of them crowd by seed 1, and the key put takes the place that is left. */
    private static void justCanBe() {
        int[] keys = Keys.crowded(13, 1, 2);
        int put = Keys.crowdedThenAt(1, 2, 3, 5);
        CuckooPages x = Keys.stuffed(new CuckooPages(), keys);
        Check.due("put that makes anew", x.put(put, 7), 4);
        Check.due("the seed", x.count(5), 1);
        Check.due("keys in the stash", x.count(3), 4);
        Check.due("slot of the key put", x.slot(3, 0, 1), put);
    }

    private static void justCanNotBe() {
        int[] keys = Keys.crowded(13, 1, 2);
        CuckooPages x = Keys.stuffed(new CuckooPages(), keys);
        Check.due("put that makes anew", x.put(keys[12], 7), 4);
        Check.due("the seed, all but the key put having found room by seed 1", x.count(5), 2);
        Check.due("get", x.get(keys[12]), 7);
    }

    private static void theOtherSet() {
        CuckooPages x = new CuckooPages();
        for (int times = 1; times <= 5; times++) {
            int[] keys = Keys.crowded(13, 1 + x.count(5));
            Keys.stuffed(x, keys);
            Check.due("put that makes anew", x.put(keys[12], 1), 4);
            Check.due("the set in use", x.count(4), times % 2);
            Check.due("times of making anew", x.count(6), times);
            Keys.removeAll(x, keys);
        }
    }

    /** All nine pages of the new set have keys, and all of them come back from the disk. */
    private static void ninePages() {
        CuckooPages x = new CuckooPages();
        int key = 0;
        do {
            x.sync();
            key++;
        } while (key < 100 && (x.put(key, -key) != 4 || x.count(3) == 0));
        Check.due("writes of making anew", x.count(1), 10);
        Check.due("keys in the stash", x.count(3) > 0, true);
        for (int page = 0; page < 9; page++) {
            Check.due("page " + page + " has a key", x.slot(page, 0, 0), 1);
        }
        String slots = Check.slotsOf(x);
        Check.due("crash", x.crash(10), 0);
        Check.dueSame("what THE DISK has", Check.slotsOf(x), slots);
    }

    private static void rootComesLast() {
        int[] keys = Keys.withHomes(13, 1, 2, 6);
        for (int done = 0; done <= 11; done++) {
            CuckooPages x = Keys.stuffed(new CuckooPages(), keys);
            x.sync();
            String before = Check.slotsOf(x);
            Check.due("put that makes anew", x.put(keys[12], 7), 4);
            String after = Check.slotsOf(x);
            boolean kept = done >= 10;
            Check.due("crash(" + done + ") amid making anew", x.crash(done), kept ? 0 : 10 - done);
            Check.dueSame("what the crash left", Check.slotsOf(x), kept ? after : before);
            Check.due("the set", x.count(4), kept ? 1 : 0);
            Check.due("the seed", x.count(5), kept ? 1 : 0);
            Check.due("home", x.home(5, false), Keys.home(5, kept ? 2 : 1, false));
        }
    }

    /** Pages of a making anew that was lost stand on THE DISK; the next one must not meet them. */
    private static void overWhatWasLost() {
        int[] keys = Keys.withHomes(14, 1, 2, 6);
        CuckooPages x = Keys.stuffed(new CuckooPages(), keys);
        x.sync();
        x.put(keys[12], 7);
        x.crash(9);
        Check.due("put that makes anew, again", x.put(keys[13], 8), 4);
        Check.due("has the key that was lost", x.has(keys[12]), false);
        Check.due("keys", x.count(0), 13);
        x.sync();
        x.crash(0);
        Check.due("keys behind a crash", x.count(0), 13);
        Check.due("times of making anew", x.count(6), 2);
    }
}

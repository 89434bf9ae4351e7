/** Under "Terms": the sentences on WRITES that wait, and on THE DISK. */
final class WaitingTest {
    private WaitingTest() {
    }

    public static void main(String[] args) {
        Check.sentence("A WRITE is of a whole PAGE, .. as it is then (a PAGE)", WaitingTest::aPageAsItWas);
        Check.sentence("A WRITE is of .. the JOURNAL, as it is then", WaitingTest::theJournalAsItWas);
        Check.sentence("A WRITE is of .. the ROOT, .. as it is then", WaitingTest::theRootAsItWas);
        Check.sentence("WRITES wait in order", WaitingTest::inOrder);
        Check.sentence("at most 40 (39 and 40 of them wait)", WaitingTest::fortyWait);
        Check.sentence("when more would come, all that wait are DONE first (by put)", WaitingTest::theNextPut);
        Check.sentence("when more would come, all that wait are DONE first (by remove)", WaitingTest::theNextRemove);
        Check.sentence("when more would come, .. (again and again)", WaitingTest::everyForty);
        Check.sentence("when more would come, .. (none comes)", WaitingTest::noneComes);
        Check.sentence("when more would come, .. (amid a PATH)", WaitingTest::amidAPath);
        Check.sentence("when more would come, .. (amid MAKING ANEW)", WaitingTest::amidMakingAnew);
        Check.sentence("DONE ones are on THE DISK.", WaitingTest::doneOnes);
        Check.sentence("What is asked is answered of what there is with all WRITES.", WaitingTest::asking);
        Check.end();
    }

    /** Both keys stand on one page: the first write of it must not bring along what came later. */
    private static void aPageAsItWas() {
        int[] keys = Keys.withHomes(2, 1, 3, 5);
        for (int done = 0; done <= 4; done++) {
            CuckooPages x = new CuckooPages();
            x.put(keys[0], 1);
            x.put(keys[1], 2);
            x.put(keys[0], 3);
            x.remove(keys[1]);
            x.crash(done);
            Check.due("get of the first, " + done + " done", x.get(keys[0]), new int[] {0, 1, 1, 3, 3}[done]);
            Check.due("has the second, " + done + " done", x.has(keys[1]), done == 2 || done == 3);
        }
    }

    /** Two paths wait: the journal's first write tells the first one's slots, its third the second one's. */
    private static void theJournalAsItWas() {
        for (int done : new int[] {1, 5}) {
            Layout at = new Layout();
            at.fill(1, 6, 4, 4, 4);
            at.fill(4, 1, 7, 1, 1);
            at.x.sync();
            int first = at.put(1, 4, 2);
            Check.due("slots of the first path", at.x.count(7), 2);
            // the key put before stands in 1.0 now, and goes on to 4.1, whose key can go on to 7
            int second = at.put(1, 4, 2);
            Check.due("slots of the second path", at.x.count(7), 3);
            at.x.crash(done);
            Check.due("slots that the journal told", at.x.count(8), done == 1 ? 2 : 3);
            Check.due("has the key put first", at.x.has(first), true);
            Check.due("has the key put second", at.x.has(second), done == 5);
        }
    }

    /** Two times of making anew wait, ten writes each: the root's first write tells set 1, its second set 0 again. */
    private static void theRootAsItWas() {
        int[] keys = Keys.crowded(13, 1, 2);
        int put = Keys.crowdedThenAt(1, 2, 3, 5);
        for (int done : new int[] {9, 10, 19, 20}) {
            CuckooPages x = Keys.stuffed(new CuckooPages(), keys);
            x.sync();
            Check.due("put that makes anew", x.put(put, 1), 4);
            Check.due("put that makes anew, again", x.put(keys[12], 1), 4);
            Check.due("crash", x.crash(done), 20 - done);
            Check.due("the set, " + done + " done", x.count(4), done == 10 || done == 19 ? 1 : 0);
            Check.due("the seed, " + done + " done", x.count(5), done / 10);
            Check.due("keys, " + done + " done", x.count(0), 12 + done / 10);
        }
    }

    private static void inOrder() {
        for (int done = 0; done <= 8; done++) {
            CuckooPages x = new CuckooPages();
            for (int i = 1; i <= 8; i++) {
                x.put(5, i);
            }
            x.crash(done);
            Check.due("get behind " + done + " writes", x.get(5), done);
        }
    }

    /** So many writes wait, each of the page of key 9, whose values are 0 and up. */
    private static CuckooPages withWaiting(CuckooPages x, int many) {
        int missing = many - x.count(1);
        for (int i = 0; i < missing; i++) {
            x.put(9, i);
        }
        Check.due("writes that wait", x.count(1), many);
        return x;
    }

    private static void fortyWait() {
        for (int many = 39; many <= 40; many++) {
            CuckooPages x = withWaiting(new CuckooPages(), many);
            Check.due("crash of " + many, x.crash(0), many);
            Check.due("has(9)", x.has(9), false);
            CuckooPages y = withWaiting(new CuckooPages(), many);
            Check.due("crash of " + many + " but for the last", y.crash(many - 1), 1);
            Check.due("get(9)", y.get(9), many - 2);
        }
    }

    private static void theNextPut() {
        CuckooPages x = withWaiting(new CuckooPages(), 40);
        x.put(9, 1000);
        Check.due("writes that wait", x.count(1), 1);
        Check.due("writes ever", x.count(2), 41);
        Check.due("get(9) with all writes", x.get(9), 1000);
        Check.due("crash", x.crash(0), 1);
        Check.due("get(9) of the fortieth", x.get(9), 39);
    }

    private static void theNextRemove() {
        CuckooPages x = withWaiting(new CuckooPages(), 40);
        Check.due("remove(9)", x.remove(9), true);
        Check.due("writes that wait", x.count(1), 1);
        Check.due("has(9) with all writes", x.has(9), false);
        Check.due("crash", x.crash(0), 1);
        Check.due("get(9) of the fortieth", x.get(9), 39);
    }

    private static void everyForty() {
        CuckooPages x = new CuckooPages();
        for (int i = 1; i <= 201; i++) {
            x.put(9, i);
            Check.due("writes that wait behind " + i, x.count(1), (i - 1) % 40 + 1);
        }
        Check.due("writes ever", x.count(2), 201);
        Check.due("crash", x.crash(0), 1);
        Check.due("get(9) of the 200th", x.get(9), 200);
    }

    /** With forty writes waiting, what writes nothing leaves them waiting. */
    private static void noneComes() {
        int[] keys = Keys.withHomes(13, 1, 2, 6);
        CuckooPages x = new CuckooPages();
        for (int k = 0; k < 4; k++) {
            x.seed(k, 1);
        }
        withWaiting(Keys.stuffed(x, keys), 40);
        Check.due("put that is FULL", x.put(keys[12], 1), CuckooPages.FULL);
        Check.due("remove of what is not there", x.remove(keys[12]), false);
        Check.dueIllegalArgument("crash(-1)", () -> x.crash(-1));
        Check.dueIllegalState("seed(0, 1)", () -> x.seed(0, 1));
        Check.due("get", x.get(keys[0]), 100);
        Check.due("writes that wait", x.count(1), 40);
        Check.due("crash", x.crash(0), 40);
        Check.due("keys", x.count(0), 0);
    }

    /** The path has two slots, so four writes; the 41st write finds forty waiting. */
    private static void amidAPath() {
        for (int wait = 36; wait <= 40; wait++) {
            Layout at = new Layout();
            int mover = at.fill(1, 6, 4, 4, 4)[0];
            at.fill(4, 1, 1, 1, 1);
            withWaiting(at.x, wait);
            int put = at.put(1, 4, 2);
            int left = wait == 36 ? 40 : wait - 36;
            Check.due("writes that wait behind the path", at.x.count(1), left);
            Check.due("crash", at.x.crash(0), left);
            // of the path's writes, the first one, that is done if forty waited amid them, told the journal
            boolean told = wait > 36 && wait < 40;
            Check.due("slots that the journal told", at.x.count(8), told ? 2 : 0);
            Check.due("has the key put", at.x.has(put), told);
            Check.due("has the key moved", at.x.has(mover), wait > 36);
        }
    }

    private static void amidMakingAnew() {
        int[] keys = Keys.withHomes(13, 1, 2, 6);
        for (int wait = 30; wait <= 40; wait++) {
            CuckooPages x = Keys.stuffed(new CuckooPages(), keys);
            withWaiting(x, wait);
            Check.due("put by making anew", x.put(keys[12], 7), 4);
            int left = wait == 30 ? 40 : wait - 30;
            Check.due("writes that wait behind making anew", x.count(1), left);
            Check.due("crash", x.crash(left - 1), 1);
            Check.due("the set, the root being lost", x.count(4), 0);
            Check.due("has the last of the old set", x.has(keys[11]), true);
            Check.due("has the key put", x.has(keys[12]), false);
        }
    }

    private static void doneOnes() {
        CuckooPages x = new CuckooPages();
        x.put(1, 10);
        x.put(2, 20);
        x.crash(1);
        x.put(3, 30);
        x.sync();
        x.remove(1);
        x.crash(0);
        Check.due("get of what a crash has done", x.get(1), 10);
        Check.due("get of what a crash has lost", x.get(2), 0);
        Check.due("get of what a sync has done", x.get(3), 30);
    }

    private static void asking() {
        int[] keys = Keys.withHomes(13, 1, 2, 6);
        CuckooPages x = Keys.stuffed(new CuckooPages(), keys);
        Check.due("has, nothing being done", x.has(keys[0]), true);
        Check.due("get, nothing being done", x.get(keys[11]), 111);
        Check.due("reads, nothing being done", x.reads(keys[5]), 2);
        Check.due("slot, nothing being done", x.slot(8, 3, 1), keys[11]);
        Check.due("keys, nothing being done", x.count(0), 12);
        Check.due("keys in the stash, nothing being done", x.count(3), 4);
        x.sync();
        x.put(keys[12], 7);
        Check.due("the set, the root's write waiting", x.count(4), 1);
        Check.due("the seed, the root's write waiting", x.count(5), 1);
        Check.due("home, the root's write waiting", x.home(0, false), 2);
        Check.due("get, the root's write waiting", x.get(keys[12]), 7);
        x.remove(keys[3]);
        Check.due("has, a remove waiting", x.has(keys[3]), false);
    }
}

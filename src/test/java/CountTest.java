/** Promise 12: count. */
final class CountTest {
    private CountTest() {
    }

    public static void main(String[] args) {
        Check.sentence("What = 0 KEYS", CountTest::keys);
        Check.sentence("1 WRITES that wait", CountTest::writesThatWait);
        Check.sentence("2 WRITES ever", CountTest::writesEver);
        Check.sentence("2 WRITES ever (lost ones, too)", CountTest::lostWrites);
        Check.sentence("2 WRITES ever (.. a RECOVERY makes none)", CountTest::recoveryMakesNone);
        Check.sentence("3 KEYS in the STASH", CountTest::keysInTheStash);
        Check.sentence("4 the SET in use", CountTest::setInUse);
        Check.sentence("5 which SEED", CountTest::whichSeed);
        Check.sentence("6 times of MAKING ANEW", CountTest::timesOfMakingAnew);
        Check.sentence("6 times of MAKING ANEW (FULL is none)", CountTest::fullIsNoTime);
        Check.sentence("7 SLOTS of the PATH by which put() answered 2 last", CountTest::lastPath);
        Check.sentence("7 .. (0 before one)", CountTest::zeroBeforeOne);
        Check.sentence("7 .. (PATHS in MAKING ANEW .. do not count)", CountTest::pathsInMakingAnew);
        Check.sentence("7 .. (.. those without an end, do not count)", CountTest::pathsWithoutAnEnd);
        Check.sentence("8 SLOTS that the JOURNAL told in the last RECOVERY", CountTest::lastRecovery);
        Check.sentence("IllegalArgument.", CountTest::wrongNumbers);
        Check.sentence("count: all of them together", CountTest::aLife);
        Check.end();
    }

    private static void keys() {
        Layout at = new Layout();
        for (int many = 1; many <= 12; many++) {
            int key = at.put(1, 4, many <= 8 ? 1 : 3);
            at.again(key, 0);
            Check.due("keys", at.x.count(0), many);
        }
        at.x.crash(10);
        // put twice each: the tenth write is the second one of the fifth key
        Check.due("keys behind a crash", at.x.count(0), 5);
        Layout one = new Layout();
        one.goToSetOne();
        Check.due("keys of set 1, set 0 having some", one.x.count(0), 0);
    }

    private static void writesThatWait() {
        CuckooPages x = new CuckooPages();
        x.put(1, 1);
        x.put(1, 2);
        x.remove(1);
        Check.due("writes that wait", x.count(1), 3);
        x.remove(1);
        x.get(1);
        Check.due("writes that wait, none having come", x.count(1), 3);
        x.crash(1);
        Check.due("writes that wait behind a crash", x.count(1), 0);
        x.put(1, 3);
        x.sync();
        Check.due("writes that wait behind a sync", x.count(1), 0);
    }

    private static void writesEver() {
        CuckooPages x = new CuckooPages();
        for (int i = 1; i <= 100; i++) {
            x.put(9, i);
            Check.due("writes ever", x.count(2), i);
        }
        x.sync();
        Check.due("writes ever behind a sync", x.count(2), 100);
        x.remove(9);
        x.remove(9);
        Check.due("writes ever behind a remove, and one of nothing", x.count(2), 101);
    }

    private static void lostWrites() {
        CuckooPages x = new CuckooPages();
        for (int i = 0; i < 5; i++) {
            x.put(i, i);
        }
        x.crash(2);
        Check.due("writes ever, three being lost", x.count(2), 5);
        x.put(9, 9);
        x.crash(0);
        Check.due("writes ever, one more being lost", x.count(2), 6);
    }

    /** The next put is by a path of two slots, so of four writes; all before it, eight writes, is done. */
    private static Layout pathIsNext() {
        Layout at = new Layout();
        at.fill(1, 6, 4, 4, 4);
        at.fill(4, 1, 1, 1, 1);
        at.x.sync();
        return at;
    }

    private static void recoveryMakesNone() {
        for (int done = 0; done <= 4; done++) {
            Layout at = pathIsNext();
            at.put(1, 4, 2);
            at.x.crash(done);
            Check.due("slots that the journal told", at.x.count(8), done >= 1 && done <= 3 ? 2 : 0);
            Check.due("writes ever behind a recovery", at.x.count(2), 12);
            Check.due("writes that wait behind a recovery", at.x.count(1), 0);
        }
    }

    private static void keysInTheStash() {
        int[] keys = Keys.withHomes(13, 1, 2, 6);
        CuckooPages x = new CuckooPages();
        for (int i = 0; i < 12; i++) {
            x.put(keys[i], 1);
            Check.due("keys in the stash", x.count(3), Math.max(0, i - 7));
        }
        x.remove(keys[9]);
        Check.due("keys in the stash behind a remove", x.count(3), 3);
        x.remove(keys[0]);
        Check.due("keys in the stash, a home having room", x.count(3), 3);
        x.put(keys[12], 1);
        Check.due("keys in the stash, that home being full", x.count(3), 3);
        x.crash(9);
        Check.due("keys in the stash behind a crash", x.count(3), 1);
        Layout at = new Layout();
        at.goToSetOne();
        Check.due("keys in the stash of set 1, that of set 0 being full", at.x.count(3), 0);
        at.close(1, 4);
        at.put(1, 4, 3);
        Check.due("keys in the stash of set 1", at.x.count(3), 1);
    }

    private static CuckooPages madeAnew() {
        int[] keys = Keys.withHomes(13, 1, 2, 6);
        CuckooPages x = Keys.stuffed(new CuckooPages(), keys);
        x.sync();
        Check.due("put that makes anew", x.put(keys[12], 1), 4);
        return x;
    }

    private static void setInUse() {
        CuckooPages x = madeAnew();
        Check.due("the set", x.count(4), 1);
        x.crash(9);
        Check.due("the set, the root being lost", x.count(4), 0);
        CuckooPages y = madeAnew();
        y.crash(10);
        Check.due("the set, the root being done", y.count(4), 1);
    }

    /** Which one, not what it is. */
    private static void whichSeed() {
        int[] keys = Keys.withHomes(13, 70, 2, 6);
        CuckooPages x = new CuckooPages();
        for (int k = 0; k < 4; k++) {
            x.seed(k, k == 3 ? 99 : 70);
        }
        Check.due("which seed", x.count(5), 0);
        Keys.stuffed(x, keys);
        x.sync();
        Check.due("put that makes anew", x.put(keys[12], 1), 4);
        Check.due("which seed behind making anew", x.count(5), 3);
        x.crash(0);
        Check.due("which seed, that being lost", x.count(5), 0);
    }

    private static void timesOfMakingAnew() {
        CuckooPages x = madeAnew();
        Check.due("times", x.count(6), 1);
        x.crash(0);
        Check.due("times, one being lost", x.count(6), 1);
        Check.due("put that makes anew", x.put(Keys.withHomes(13, 1, 2, 6)[12], 1), 4);
        Check.due("times, again", x.count(6), 2);
        x.sync();
        Check.due("times behind a sync", x.count(6), 2);
    }

    private static void fullIsNoTime() {
        int[] keys = Keys.withHomes(13, 1, 2, 6);
        CuckooPages x = new CuckooPages();
        for (int k = 0; k < 4; k++) {
            x.seed(k, 1);
        }
        Keys.stuffed(x, keys);
        Check.due("put", x.put(keys[12], 1), CuckooPages.FULL);
        Check.due("times", x.count(6), 0);
    }

    private static void lastPath() {
        Layout at = new Layout();
        at.fill(1, 6, 4, 4, 4);
        at.fill(4, 1, 7, 1, 1);
        at.put(1, 4, 2);
        Check.due("slots of the first path", at.x.count(7), 2);
        int second = at.put(1, 4, 2);
        Check.due("slots of the second path", at.x.count(7), 3);
        at.again(second, 0);
        at.put(3, 5, 1);
        at.x.remove(second);
        at.x.sync();
        at.x.crash(0);
        Check.due("slots of the last path behind other calls", at.x.count(7), 3);
        at.fill(0, 2, 3, 3, 3);
        at.fill(3, 0, 0, 0);
        at.put(0, 3, 2);
        Check.due("slots of a third path, shorter than the second", at.x.count(7), 2);
    }

    private static void zeroBeforeOne() {
        Layout at = new Layout();
        Check.due("slots of the last path of a new object", at.x.count(7), 0);
        at.fill(1, 6, 4, 4, 4);
        at.fill(4, 1, 1, 1, 1);
        at.x.sync();
        at.x.crash(0);
        Check.due("slots of the last path before one", at.x.count(7), 0);
        at.put(1, 4, 2);
        Check.due("slots of the last path behind one", at.x.count(7), 2);
        at.x.crash(0);
        Check.due("slots of the last path, lost or not", at.x.count(7), 2);
    }

    /** By seed 1, too, the keys crowd, so that making anew under it goes by a path, and put answers 4. */
    private static void pathsInMakingAnew() {
        int mover = Keys.crowdedThenAt(1, 2, 2, 7);
        int[] keys = Keys.crowded(12, 1, 2);
        CuckooPages x = new CuckooPages();
        x.put(mover, 1);
        for (int i = 0; i < 11; i++) {
            x.put(keys[i], 1);
        }
        Check.due("put that makes anew", x.put(keys[11], 1), 4);
        Check.due("the seed", x.count(5), 1);
        Check.due("pages read to find the key that a path has moved", x.reads(mover), 2);
        Check.due("slots of a path in making anew", x.count(7), 0);
    }

    private static void pathsWithoutAnEnd() {
        Layout at = pathIsNext();
        at.put(1, 4, 2);
        at.close(0, 3);
        at.put(0, 3, 3);
        Check.due("slots of the last path, one without an end having come", at.x.count(7), 2);
        Layout first = new Layout();
        first.fill(1, 4, 4, 4, 4);
        first.fill(4, 6, 1, 1, 1);
        first.put(1, 4, 2);
        Check.due("slots of the path from the second home, the first one's having no end", first.x.count(7), 2);
        Layout none = new Layout();
        none.close(0, 3);
        none.put(0, 3, 3);
        Check.due("slots of the last path, one without an end being the only one", none.x.count(7), 0);
    }

    private static void lastRecovery() {
        Layout at = pathIsNext();
        int put = at.put(1, 4, 2);
        Check.due("slots before a recovery", at.x.count(8), 0);
        at.x.crash(1);
        Check.due("slots of the recovery", at.x.count(8), 2);
        at.x.remove(put);
        at.x.sync();
        at.put(1, 4, 1);
        Check.due("slots of the last recovery behind other calls", at.x.count(8), 2);
        at.x.crash(0);
        Check.due("slots of a recovery without a journal", at.x.count(8), 0);
    }

    private static void wrongNumbers() {
        Layout at = pathIsNext();
        for (int what : new int[] {-1, 9, 10, Integer.MIN_VALUE, Integer.MAX_VALUE}) {
            Check.dueIllegalArgument("count(" + what + ")", () -> at.x.count(what));
        }
        Check.dueTwins("wrong numbers change nothing", at.x, pathIsNext().x, 0);
    }

    private static void dueCounts(String when, CuckooPages x, int... due) {
        for (int what = 0; what <= 8; what++) {
            Check.due("count(" + what + ") " + when, x.count(what), due[what]);
        }
    }

    private static void aLife() {
        CuckooPages x = new CuckooPages();
        dueCounts("of a new object", x, 0, 0, 0, 0, 0, 0, 0, 0, 0);
        int[] keys = Keys.withHomes(13, 1, 1, 4);
        int[] mover = Keys.withHomes(1, 1, 1, 6);
        x.put(mover[0], 50);
        for (int i = 0; i < 7; i++) {
            x.put(keys[i], i);
        }
        dueCounts("of eight keys", x, 8, 8, 8, 0, 0, 0, 0, 0, 0);
        x.sync();
        dueCounts("behind a sync", x, 8, 0, 8, 0, 0, 0, 0, 0, 0);
        x.put(keys[7], 7);
        dueCounts("behind a path", x, 9, 4, 12, 0, 0, 0, 0, 2, 0);
        x.crash(2);
        dueCounts("behind a recovery", x, 9, 0, 12, 0, 0, 0, 0, 2, 2);
        for (int i = 8; i < 12; i++) {
            x.put(keys[i], i);
        }
        dueCounts("with a full stash", x, 13, 4, 16, 4, 0, 0, 0, 2, 2);
        Check.due("put that makes anew", x.put(keys[12], 12), 4);
        dueCounts("behind making anew", x, 14, 14, 26, 0, 1, 1, 1, 2, 2);
        x.crash(13);
        dueCounts("with that lost", x, 13, 0, 26, 4, 0, 0, 1, 2, 0);
        x.remove(keys[11]);
        dueCounts("behind a remove", x, 12, 1, 27, 3, 0, 0, 1, 2, 0);
    }
}

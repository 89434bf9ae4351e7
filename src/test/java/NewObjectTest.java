/** Promise 1: a new object. */
final class NewObjectTest {
    private NewObjectTest() {
    }

    public static void main(String[] args) {
        Check.sentence("All SLOTS empty", NewObjectTest::allSlotsEmpty);
        Check.sentence("All SLOTS empty (KEY 0 is not there)", NewObjectTest::zeroIsNotThere);
        Check.sentence("SEEDS 1, 2, 3, 4", NewObjectTest::seedsAreOneToFour);
        Check.sentence("no WRITES", NewObjectTest::noWrites);
        Check.sentence("A new object: nothing was counted", NewObjectTest::nothingCounted);
        Check.sentence("A new object: apart from others", NewObjectTest::apartFromOthers);
        Check.end();
    }

    private static void allSlotsEmpty() {
        CuckooPages x = new CuckooPages();
        for (int place = 0; place < 36; place++) {
            for (int what = 0; what < 3; what++) {
                Check.due("slot of a new object", x.slot(place / 4, place % 4, what), 0);
            }
        }
    }

    private static void zeroIsNotThere() {
        CuckooPages x = new CuckooPages();
        Check.due("has(0)", x.has(0), false);
        Check.due("reads(0)", x.reads(0), 3);
        Check.due("remove(0)", x.remove(0), false);
        x.crash(0);
        Check.due("has(0) behind a crash", x.has(0), false);
        Check.due("put(0, 0)", x.put(0, 0), 1);
    }

    /** Made anew again and again, an object shows each of its seeds by the homes it tells. */
    private static void seedsAreOneToFour() {
        CuckooPages x = new CuckooPages();
        boolean[] seen = new boolean[4];
        for (int round = 0; round < 6; round++) {
            int which = x.count(5);
            seen[which] = true;
            for (int key = -5; key < 15; key++) {
                Check.due("home by seed " + which, x.home(key, false), Keys.home(key, 1 + which, false));
                Check.due("second home by seed " + which, x.home(key, true), Keys.home(key, 1 + which, true));
            }
            int[] keys = Keys.withHomes(13, 1 + which, 3, 5);
            for (int key : keys) {
                x.put(key, 1);
            }
            Keys.removeAll(x, keys);
        }
        for (int which = 0; which < 4; which++) {
            Check.due("seed " + which + " was seen in use", seen[which], true);
        }
    }

    private static void noWrites() {
        CuckooPages x = new CuckooPages();
        Check.due("writes that wait", x.count(1), 0);
        Check.due("writes ever", x.count(2), 0);
        Check.due("sync()", x.sync(), 0);
        Check.due("crash(0)", x.crash(0), 0);
        // no write was: the seeds may still be told
        x.seed(0, 5);
        Check.due("home by the seed told", x.home(3, false), Keys.home(3, 5, false));
    }

    private static void nothingCounted() {
        CuckooPages x = new CuckooPages();
        for (int what = 0; what <= 8; what++) {
            Check.due("count(" + what + ")", x.count(what), 0);
        }
    }

    private static void apartFromOthers() {
        CuckooPages x = new CuckooPages();
        CuckooPages y = new CuckooPages();
        x.seed(0, 99);
        for (int key = 0; key < 20; key++) {
            x.put(key, key);
        }
        Check.dueTwins("two new objects", y, new CuckooPages(), 0);
    }
}

/** Promise 1: a new object. */
final class NewObjectTest {
    private NewObjectTest() {
    }

    public static void main(String[] args) {
        allEmpty();
        seedsAreOneToFour();
        Check.end();
    }

    private static void allEmpty() {
        CuckooPages x = new CuckooPages();
        for (int what = 0; what <= 8; what++) {
            Check.due("count(" + what + ") of a new object", x.count(what), 0);
        }
        for (int place = 0; place < 36; place++) {
            for (int what = 0; what < 3; what++) {
                Check.due("slot of a new object", x.slot(place / 4, place % 4, what), 0);
            }
        }
        // an empty slot must not pass for one with the key 0
        Check.due("has(0) of a new object", x.has(0), false);
        Check.due("sync() of a new object", x.sync(), 0);
        Check.due("crash(0) of a new object", x.crash(0), 0);
        Check.due("has(0) behind a crash of a new object", x.has(0), false);
        Check.dueSame("two new objects are apart", Check.stateOf(x), Check.stateOf(new CuckooPages()));
    }

    /** Made anew again and again, an object shows each of its seeds by the homes it tells. */
    private static void seedsAreOneToFour() {
        CuckooPages x = new CuckooPages();
        boolean[] seen = new boolean[4];
        for (int round = 0; round < 6; round++) {
            int which = x.count(5);
            seen[which] = true;
            for (int key = -5; key < 15; key++) {
                Check.due("home by seed " + which, x.home(key, false), Keys.home(key, 1 + which, false));
                Check.due("second home by seed " + which, x.home(key, true), Keys.home(key, 1 + which, true));
            }
            crowd(x, 1 + which);
        }
        for (int which = 0; which < 4; which++) {
            Check.due("seed " + which + " was seen in use", seen[which], true);
        }
    }

    private static void crowd(CuckooPages x, int seed) {
        int[] keys = Keys.withHomes(13, seed, 3, 5);
        for (int key : keys) {
            x.put(key, 1);
        }
        for (int key : keys) {
            x.remove(key);
        }
    }
}

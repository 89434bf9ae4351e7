/** Promise 2: seed. */
final class SeedTest {
    private static final int[] EDGES = {0, -5, 77, -1, Integer.MAX_VALUE, Integer.MIN_VALUE};

    private SeedTest() {
    }

    public static void main(String[] args) {
        Check.sentence("SEED k, .. is told (the one in use)", SeedTest::tellsTheSeedInUse);
        Check.sentence("SEED k, 0 .. 3, is told (each of the others)", SeedTest::tellsTheOtherSeeds);
        Check.sentence("SEED k, .. is told (and no other one)", SeedTest::tellsNoOtherSeed);
        Check.sentence("SEED k, .. is told (twice)", SeedTest::theLastOneHolds);
        Check.sentence("seed: it is no WRITE", SeedTest::isNoWrite);
        Check.sentence("IllegalArgument.", SeedTest::noSuchSeed);
        Check.sentence("IllegalState: there was a WRITE already (by put)", SeedTest::behindAPut);
        Check.sentence("IllegalState: there was a WRITE already (done)", SeedTest::behindASync);
        Check.sentence("IllegalState: there was a WRITE already (lost)", SeedTest::behindALostWrite);
        Check.sentence("IllegalState: there was a WRITE already (there was none)", SeedTest::behindNoWrite);
        Check.sentence("IllegalState: no SEED has changed", SeedTest::refusedSeedsStay);
        Check.sentence("IllegalArgument, before IllegalState", SeedTest::noSuchSeedBehindAWrite);
        Check.end();
    }

    private static void tellsTheSeedInUse() {
        CuckooPages x = new CuckooPages();
        for (int seed : EDGES) {
            x.seed(0, seed);
            for (int key = -20; key < 20; key++) {
                Check.due("home by a seed told", x.home(key, false), Keys.home(key, seed, false));
                Check.due("second home by a seed told", x.home(key, true), Keys.home(key, seed, true));
            }
        }
    }

    /** The other seeds are as the one in use, so that none but seed k can help. */
    private static void tellsTheOtherSeeds() {
        int[] keys = Keys.withHomes(13, 1, 2, 6);
        for (int k = 1; k <= 3; k++) {
            for (int seed : new int[] {1234567, -77777777}) {
                CuckooPages x = new CuckooPages();
                for (int other = 0; other < 4; other++) {
                    x.seed(other, other == k ? seed : 1);
                }
                Keys.stuffed(x, keys);
                Check.due("put that needs seed " + k, x.put(keys[12], 5), 4);
                Check.due("the seed in use", x.count(5), k);
                Check.due("home by it", x.home(99, false), Keys.home(99, seed, false));
            }
        }
    }

    private static void tellsNoOtherSeed() {
        for (int k = 1; k <= 3; k++) {
            CuckooPages x = new CuckooPages();
            x.seed(k, 1234567);
            Check.due("home by seed 0", x.home(99, true), Keys.home(99, 1, true));
        }
        CuckooPages y = new CuckooPages();
        int[] keys = Keys.withHomes(13, 77, 2, 6);
        y.seed(0, 77);
        Keys.stuffed(y, keys);
        Check.due("put that needs seed 1", y.put(keys[12], 5), 4);
        Check.due("the seed in use", y.count(5), 1);
        Check.due("home by it", y.home(99, false), Keys.home(99, 2, false));
    }

    private static void theLastOneHolds() {
        CuckooPages x = new CuckooPages();
        x.seed(0, 77);
        x.seed(0, 5);
        Check.due("home by the last one told", x.home(43, false), Keys.home(43, 5, false));
        x.seed(0, 1);
        Check.due("home by the first one again", x.home(43, false), 7);
    }

    private static void isNoWrite() {
        CuckooPages x = new CuckooPages();
        for (int k = 0; k < 4; k++) {
            x.seed(k, 10 + k);
        }
        Check.due("writes that wait", x.count(1), 0);
        Check.due("writes ever", x.count(2), 0);
        x.crash(0);
        Check.due("home behind a crash", x.home(3, false), Keys.home(3, 10, false));
    }

    private static void noSuchSeed() {
        CuckooPages x = new CuckooPages();
        for (int k : new int[] {-1, 4, 5, Integer.MIN_VALUE, Integer.MAX_VALUE}) {
            Check.dueIllegalArgument("seed(" + k + ", 9)", () -> x.seed(k, 9));
        }
        Check.due("home behind wrong seeds", x.home(5, false), 6);
        x.seed(0, 9);
        x.seed(3, 9);
        Check.due("home behind right ones", x.home(5, false), Keys.home(5, 9, false));
    }

    private static void dueTooLate(CuckooPages x) {
        for (int k = 0; k < 4; k++) {
            int which = k;
            Check.dueIllegalState("seed(" + k + ", as it is)", () -> x.seed(which, 1 + which));
            Check.dueIllegalState("seed(" + k + ", 9)", () -> x.seed(which, 9));
        }
        Check.due("home by seed 0 as it was", x.home(5, false), 6);
    }

    private static void behindAPut() {
        CuckooPages x = new CuckooPages();
        x.put(1, 1);
        dueTooLate(x);
        x.remove(1);
        Check.due("keys", x.count(0), 0);
        dueTooLate(x);
    }

    private static void behindASync() {
        CuckooPages x = new CuckooPages();
        x.put(1, 1);
        x.sync();
        dueTooLate(x);
    }

    private static void behindALostWrite() {
        CuckooPages x = new CuckooPages();
        x.put(1, 1);
        x.crash(0);
        Check.due("keys behind the crash", x.count(0), 0);
        dueTooLate(x);
    }

    private static void behindNoWrite() {
        CuckooPages x = new CuckooPages();
        x.remove(3);
        x.sync();
        x.crash(0);
        x.has(1);
        x.get(1);
        x.reads(1);
        x.slot(0, 0, 0);
        for (int k = 0; k < 4; k++) {
            x.seed(k, 8);
        }
        Check.due("home by the seed told", x.home(5, false), Keys.home(5, 8, false));
    }

    /** Seeds that were refused show themselves no more than the one in use, when all is made anew. */
    private static void refusedSeedsStay() {
        int[] keys = Keys.withHomes(13, 1, 2, 6);
        CuckooPages x = Keys.stuffed(new CuckooPages(), keys);
        dueTooLate(x);
        Check.due("put that makes anew", x.put(keys[12], 5), 4);
        Check.due("the seed in use", x.count(5), 1);
        for (int key = 0; key < 20; key++) {
            Check.due("home by seed 1", x.home(key, false), Keys.home(key, 2, false));
        }
    }

    private static void noSuchSeedBehindAWrite() {
        CuckooPages x = new CuckooPages();
        x.put(1, 1);
        for (int k : new int[] {-1, 4, Integer.MIN_VALUE, Integer.MAX_VALUE}) {
            Check.dueIllegalArgument("seed(" + k + ", 9) behind a write", () -> x.seed(k, 9));
        }
    }
}

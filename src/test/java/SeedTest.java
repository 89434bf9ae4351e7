/** Promise 2: seed. */
final class SeedTest {
    private static final int[] EDGES = {0, -5, 77, Integer.MAX_VALUE, Integer.MIN_VALUE};

    private SeedTest() {
    }

    public static void main(String[] args) {
        tellsTheSeed();
        tellsTheOtherSeeds();
        noSuchSeed();
        behindAWrite();
        Check.end();
    }

    private static void tellsTheSeed() {
        CuckooPages x = new CuckooPages();
        for (int seed : EDGES) {
            x.seed(0, seed);
            for (int key = -20; key < 20; key++) {
                Check.due("home by a seed told", x.home(key, false), Keys.home(key, seed, false));
                Check.due("second home by a seed told", x.home(key, true), Keys.home(key, seed, true));
            }
        }
        Check.due("writes behind seed()", x.count(2), 0);
    }

    private static void tellsTheOtherSeeds() {
        for (int k = 1; k <= 3; k++) {
            CuckooPages x = new CuckooPages();
            // the others are as the one in use, so that none but seed k can help
            for (int other = 0; other < 4; other++) {
                x.seed(other, other == k ? 1234567 : 1);
            }
            int[] keys = Keys.withHomes(13, 1, 2, 6);
            Keys.stuffed(x, keys);
            Check.due("put that needs seed " + k, x.put(keys[12], 5), 4);
            Check.due("the seed in use", x.count(5), k);
            Check.due("home by it", x.home(99, false), Keys.home(99, 1234567, false));
        }
    }

    private static void noSuchSeed() {
        CuckooPages x = new CuckooPages();
        for (int k : new int[] {-1, 4, Integer.MIN_VALUE, Integer.MAX_VALUE}) {
            Check.dueIllegalArgument("seed(" + k + ", 9)", () -> x.seed(k, 9));
        }
        Check.due("home behind wrong seeds", x.home(5, false), 6);
        x.put(1, 1);
        Check.dueIllegalArgument("seed(4, 9) behind a write", () -> x.seed(4, 9));
        Check.dueIllegalArgument("seed(-1, 9) behind a write", () -> x.seed(-1, 9));
    }

    private static void behindAWrite() {
        CuckooPages x = new CuckooPages();
        x.remove(3);
        x.sync();
        x.crash(0);
        x.seed(3, 8);
        x.put(1, 1);
        for (int k = 0; k < 4; k++) {
            int which = k;
            Check.dueThrow("seed behind a write", IllegalStateException.class, () -> x.seed(which, 9));
        }
        x.crash(0);
        Check.due("keys behind the crash", x.count(0), 0);
        Check.dueThrow("seed behind a lost write", IllegalStateException.class, () -> x.seed(0, 9));
        Check.due("home, no seed having been told", x.home(5, false), 6);
    }
}

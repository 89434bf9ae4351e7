/** Promise 10: home. */
final class HomeTest {
    private HomeTest() {
    }

    public static void main(String[] args) {
        knownHomes();
        anyHomes();
        bySeedInUse();
        Check.end();
    }

    /** Seed, key, first home, second home: reckoned once in another language, apart from the class and from Keys. */
    private static void knownHomes() {
        int[][] due = {
            {1, 0, 5, 0}, {1, 5, 6, 2}, {1, -7, 2, 6}, {1, -1, 0, 1},
            {1, Integer.MAX_VALUE, 0, 1}, {1, Integer.MIN_VALUE, 5, 0},
            {2, 0, 2, 0}, {2, -7, 3, 5}, {2, Integer.MAX_VALUE, 5, 7},
            {-5, 5, 0, 1}, {-5, -1, 1, 5},
            // both are the same here, and the second one is the next
            {1, 17, 3, 4}, {1, 76, 1, 2}, {1, 43, 7, 0}, {1, 118, 7, 0}, {-5, -7, 7, 0}
        };
        for (int[] row : due) {
            CuckooPages x = new CuckooPages();
            x.seed(0, row[0]);
            Check.due("home(" + row[1] + ", false)", x.home(row[1], false), row[2]);
            Check.due("home(" + row[1] + ", true)", x.home(row[1], true), row[3]);
        }
    }

    private static void anyHomes() {
        CuckooPages x = new CuckooPages();
        int key = 12345;
        for (int i = 0; i < 200; i++) {
            key = key * 1103515245 + 12345;
            Check.due("home", x.home(key, false), Keys.home(key, 1, false));
            Check.due("second home", x.home(key, true), Keys.home(key, 1, true));
        }
        Check.due("writes, none of them by asking", x.count(2), 0);
    }

    private static void bySeedInUse() {
        int[] keys = Keys.withHomes(13, 1, 2, 6);
        CuckooPages x = Keys.stuffed(new CuckooPages(), keys);
        Check.due("home by seed 0", x.home(0, false), 5);
        x.put(keys[12], 7);
        Check.due("home by seed 1", x.home(0, false), 2);
        x.crash(0);
        Check.due("home by seed 0 again", x.home(0, false), 5);
    }
}

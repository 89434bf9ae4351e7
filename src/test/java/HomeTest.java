/** Promise 10, home, and under "Terms" the sentences on HOMES. */
final class HomeTest {
    private HomeTest() {
    }

    public static void main(String[] args) {
        Check.sentence("HOMES of a KEY k by a SEED s: ..", HomeTest::knownHomes);
        Check.sentence("HOMES of a KEY k by a SEED s: .. (any)", HomeTest::anyHomes);
        Check.sentence("its lowest three bits", HomeTest::lowestThreeBits);
        Check.sentence("If both are the same, the second one is the next", HomeTest::bothTheSame);
        Check.sentence("(7: 0)", HomeTest::behindSeven);
        Check.sentence("Numbers go round as ints.", HomeTest::numbersGoRound);
        Check.sentence("A HOME of a KEY by the SEED in use.", HomeTest::bySeedInUse);
        Check.end();
    }

    /** Seed, key, first home, second home: reckoned once in another language, apart from the class and from Keys. */
    private static void dueHomes(int[][] due) {
        for (int[] row : due) {
            CuckooPages x = new CuckooPages();
            x.seed(0, row[0]);
            String of = " of " + row[1] + " by " + row[0];
            Check.due("first home" + of, x.home(row[1], false), row[2]);
            Check.due("second home" + of, x.home(row[1], true), row[3]);
        }
    }

    private static void knownHomes() {
        dueHomes(new int[][] {
            {1, 0, 5, 0}, {1, 5, 6, 2}, {1, -7, 2, 6}, {1, 1, 2, 3}, {1, 1000003, 6, 2},
            {2, 0, 2, 0}, {2, 1, 3, 4}, {2, -7, 3, 5}, {2, 1000003, 7, 2}, {-5, 5, 0, 1}, {-5, -1, 1, 5}
        });
    }

    private static void anyHomes() {
        CuckooPages x = new CuckooPages();
        int key = 12345;
        for (int i = 0; i < 200; i++) {
            key = key * 1103515245 + 12345;
            Check.due("home", x.home(key, false), Keys.home(key, 1, false));
            Check.due("second home", x.home(key, true), Keys.home(key, 1, true));
        }
        Check.due("writes, none of them by asking", x.count(2), 0);
    }

    private static void lowestThreeBits() {
        CuckooPages x = new CuckooPages();
        boolean[] first = new boolean[8];
        boolean[] second = new boolean[8];
        for (int key = -100; key < 100; key++) {
            int one = x.home(key, false);
            int other = x.home(key, true);
            boolean buckets = one >= 0 && one <= 7 && other >= 0 && other <= 7 && one != other;
            Check.due("the homes of " + key + " are two buckets", buckets, true);
            if (buckets) {
                first[one] = true;
                second[other] = true;
            }
        }
        for (int bucket = 0; bucket < 8; bucket++) {
            Check.due(bucket + " is a first and a second home", first[bucket] && second[bucket], true);
        }
    }

    private static void bothTheSame() {
        dueHomes(new int[][] {
            {1, 156, 0, 1}, {1, 76, 1, 2}, {1, 77, 2, 3}, {1, 17, 3, 4}, {1, 149, 4, 5}, {1, 83, 5, 6}, {1, 90, 6, 7},
            {1, -29, 0, 1}, {1, -3, 1, 2}, {1, -26, 2, 3}, {1, -93, 3, 4}, {1, -22, 4, 5}, {1, -83, 5, 6},
            {1, -211, 6, 7}
        });
    }

    private static void behindSeven() {
        dueHomes(new int[][] {{1, 43, 7, 0}, {1, 118, 7, 0}, {1, 161, 7, 0}, {1, -73, 7, 0}, {-5, -7, 7, 0}});
        CuckooPages x = new CuckooPages();
        for (int key : Keys.withHomes(4, 1, 7, 1)) {
            x.put(key, 1);
        }
        Check.due("put of 43, bucket 7 being full", x.put(43, 5), 1);
        Check.due("the key of 0.0", x.slot(0, 0, 1), 43);
        Check.due("pages read to find it", x.reads(43), 2);
    }

    private static void numbersGoRound() {
        int least = Integer.MIN_VALUE;
        int greatest = Integer.MAX_VALUE;
        dueHomes(new int[][] {
            {1, greatest, 0, 1}, {1, least, 5, 0}, {1, -1, 0, 1}, {2, greatest, 5, 7}, {2, least, 2, 0}, {2, -1, 5, 7},
            {greatest, 0, 0, 1}, {greatest, 1, 0, 4}, {greatest, greatest, 4, 3}, {greatest, least, 0, 1},
            {least, 0, 0, 1}, {least, 1, 4, 3}, {least, greatest, 0, 4}, {least, least, 0, 1}, {least, 1000003, 4, 1},
            {-1, 1, 0, 4}, {-1, -1, 4, 3}, {-1, greatest, 4, 3}, {greatest, 1000003, 1, 6}
        });
    }

    private static void bySeedInUse() {
        int[] keys = Keys.withHomes(13, 1, 2, 6);
        CuckooPages x = Keys.stuffed(new CuckooPages(), keys);
        Check.due("home by seed 0", x.home(0, false), 5);
        x.put(keys[12], 7);
        Check.due("home by seed 1", x.home(0, false), 2);
        Check.due("second home by seed 1", x.home(-7, true), 5);
        x.crash(0);
        Check.due("home by seed 0 again", x.home(0, false), 5);
        Check.due("second home by seed 0 again", x.home(-7, true), 6);
    }
}

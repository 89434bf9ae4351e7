/** Promise 12: count. */
final class CountTest {
    private CountTest() {
    }

    public static void main(String[] args) {
        aLife();
        pathsThatDoNotCount();
        wrongNumbers();
        Check.end();
    }

    private static void dueCounts(String at, CuckooPages x, int... due) {
        for (int what = 0; what <= 8; what++) {
            Check.due("count(" + what + ") " + at, x.count(what), due[what]);
        }
    }

    private static void aLife() {
        int[] keys = Keys.withHomes(13, 1, 1, 4);
        int[] mover = Keys.withHomes(1, 1, 1, 6);
        CuckooPages x = new CuckooPages();
        dueCounts("of a new object", x, 0, 0, 0, 0, 0, 0, 0, 0, 0);
        x.put(mover[0], 50);
        for (int i = 0; i < 7; i++) {
            x.put(keys[i], i);
        }
        dueCounts("of eight keys", x, 8, 8, 8, 0, 0, 0, 0, 0, 0);
        x.sync();
        dueCounts("behind a sync", x, 8, 0, 8, 0, 0, 0, 0, 0, 0);
        x.put(keys[7], 7);
        dueCounts("behind a path", x, 9, 4, 12, 0, 0, 0, 0, 2, 0);
        x.crash(2);
        dueCounts("behind a recovery", x, 9, 0, 12, 0, 0, 0, 0, 2, 2);
        for (int i = 8; i < 12; i++) {
            x.put(keys[i], i);
        }
        dueCounts("with a full stash", x, 13, 4, 16, 4, 0, 0, 0, 2, 2);
        Check.due("put that makes anew", x.put(keys[12], 12), 4);
        Check.due("count(0) behind making anew", x.count(0), 14);
        Check.due("count(1) behind making anew", x.count(1), 14);
        Check.due("count(2) behind making anew", x.count(2), 26);
        Check.due("count(4) behind making anew", x.count(4), 1);
        Check.due("count(5) behind making anew", x.count(5), 1);
        Check.due("count(6) behind making anew", x.count(6), 1);
        Check.due("count(8) behind making anew", x.count(8), 2);
        x.crash(13);
        dueCounts("with that lost", x, 13, 0, 26, 4, 0, 0, 1, 2, 0);
        x.remove(keys[11]);
        dueCounts("behind a remove", x, 12, 1, 27, 3, 0, 0, 1, 2, 0);
    }

    /** The keys crowd by seed 1 too, so that making anew under it goes by a path, and put answers 4. */
    private static void pathsThatDoNotCount() {
        CuckooPages x = new CuckooPages();
        int[] keys = new int[13];
        int found = 0;
        for (int key = 0; found < 13; key++) {
            boolean crowdedNow = Keys.home(key, 1, false) == 2 && Keys.home(key, 1, true) == 6;
            boolean firstInTwo = Keys.home(key, 2, false) == 2 && Keys.home(key, 2, true) == 6;
            boolean away = Keys.home(key, 2, false) == 2 && Keys.home(key, 2, true) == 7;
            if (crowdedNow && (found == 0 ? away : firstInTwo)) {
                keys[found++] = key;
            }
        }
        Keys.stuffed(x, keys);
        Check.due("paths without an end", x.count(7), 0);
        Check.due("put that makes anew", x.put(keys[12], 1), 4);
        // by seed 1 the first key stood in slot 0 of bucket 2, and a path has moved it on
        Check.due("the first key has moved to bucket 7", x.slot(7, 0, 1), keys[0]);
        Check.due("slots of a path in making anew", x.count(7), 0);
    }

    private static void wrongNumbers() {
        CuckooPages x = new CuckooPages();
        x.put(5, 50);
        String before = Check.stateOf(x);
        for (int what : new int[] {-1, 9, Integer.MIN_VALUE, Integer.MAX_VALUE}) {
            Check.dueIllegalArgument("count(" + what + ")", () -> x.count(what));
        }
        Check.dueSame("wrong numbers change nothing", Check.stateOf(x), before);
    }
}

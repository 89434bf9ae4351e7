/** Promise 7: sync, and the forty writes that may wait. */
final class SyncTest {
    private SyncTest() {
    }

    public static void main(String[] args) {
        howManyWaited();
        fortyWait();
        fortyOneDoNot();
        fullAmidAPath();
        fullAmidMakingAnew();
        Check.end();
    }

    private static void howManyWaited() {
        CuckooPages x = new CuckooPages();
        Check.due("sync of a new object", x.sync(), 0);
        x.put(5, 50);
        x.put(5, 51);
        x.remove(5);
        x.put(5, 52);
        Check.due("sync", x.sync(), 4);
        Check.due("sync again", x.sync(), 0);
        Check.due("writes ever", x.count(2), 4);
        Check.due("crash behind a sync", x.crash(0), 0);
        Check.due("get(5) behind it", x.get(5), 52);
    }

    private static CuckooPages withWaiting(CuckooPages x, int many) {
        int missing = many - x.count(1);
        for (int i = 0; i < missing; i++) {
            x.put(9, i);
        }
        Check.due("writes that wait", x.count(1), many);
        return x;
    }

    private static void fortyWait() {
        CuckooPages x = withWaiting(new CuckooPages(), 40);
        Check.due("crash of forty", x.crash(0), 40);
        Check.due("has(9)", x.has(9), false);
        CuckooPages y = withWaiting(new CuckooPages(), 40);
        Check.due("sync of forty", y.sync(), 40);
    }

    private static void fortyOneDoNot() {
        CuckooPages x = withWaiting(new CuckooPages(), 40);
        x.put(9, 1000);
        Check.due("writes that wait", x.count(1), 1);
        Check.due("writes ever", x.count(2), 41);
        Check.due("get(9) with all writes", x.get(9), 1000);
        Check.due("crash", x.crash(0), 1);
        Check.due("get(9) of the fortieth", x.get(9), 39);
    }

    /** The put is one of a path of two slots, so of four writes; the 41st write finds forty waiting. */
    private static void fullAmidAPath() {
        int[] keys = Keys.withHomes(8, 1, 1, 4);
        int[] mover = Keys.withHomes(1, 1, 1, 6);
        for (int wait = 36; wait <= 40; wait++) {
            CuckooPages x = new CuckooPages();
            x.put(mover[0], 50);
            for (int i = 0; i < 7; i++) {
                x.put(keys[i], i);
            }
            withWaiting(x, wait);
            Check.due("put by a path", x.put(keys[7], 7), 2);
            int left = wait == 36 ? 40 : wait - 36;
            Check.due("writes that wait behind the path", x.count(1), left);
            Check.due("crash", x.crash(0), left);
            // wait + 4 - left writes are done; of the path's, the first told the journal
            boolean told = wait > 36 && wait < 40;
            Check.due("slots that the journal told", x.count(8), told ? 2 : 0);
            Check.due("has the key put", x.has(keys[7]), told);
            Check.due("has the key moved", x.has(mover[0]), wait > 36);
        }
    }

    private static void fullAmidMakingAnew() {
        int[] keys = Keys.withHomes(13, 1, 2, 6);
        for (int wait = 30; wait <= 40; wait++) {
            CuckooPages x = Keys.stuffed(new CuckooPages(), keys);
            withWaiting(x, wait);
            Check.due("put by making anew", x.put(keys[12], 7), 4);
            int left = wait == 30 ? 40 : wait - 30;
            Check.due("writes that wait behind making anew", x.count(1), left);
            Check.due("crash", x.crash(left - 1), 1);
            Check.due("the set, the root being lost", x.count(4), 0);
            Check.due("has the last of the old set", x.has(keys[11]), true);
            Check.due("has the key put", x.has(keys[12]), false);
        }
    }
}

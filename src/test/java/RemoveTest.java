/** Promise 6: remove. */
final class RemoveTest {
    private RemoveTest() {
    }

    public static void main(String[] args) {
        fromEachPlace();
        whatIsNotThere();
        isAWrite();
        Check.end();
    }

    private static void fromEachPlace() {
        for (int i = 0; i < 12; i++) {
            CuckooPages x = new CuckooPages();
            int[] keys = Keys.withHomes(12, 1, 6, 2);
            Keys.stuffed(x, keys);
            Check.due("remove", x.remove(keys[i]), true);
            Check.due("has what was removed", x.has(keys[i]), false);
            int page = i < 4 ? 6 : i < 8 ? 2 : 8;
            for (int what = 0; what < 3; what++) {
                Check.due("slot of what was removed", x.slot(page, i % 4, what), 0);
            }
            Check.due("keys", x.count(0), 11);
            Check.due("keys in the stash", x.count(3), i < 8 ? 4 : 3);
            Check.due("writes", x.count(2), 13);
            Check.due("remove again", x.remove(keys[i]), false);
            for (int other = 0; other < 12; other++) {
                Check.due("has another one", x.has(keys[other]), other != i);
            }
        }
    }

    private static void whatIsNotThere() {
        CuckooPages x = new CuckooPages();
        Check.due("remove(0) of a new object", x.remove(0), false);
        x.put(5, 50);
        String before = Check.stateOf(x);
        Check.due("remove of what was never put", x.remove(6), false);
        Check.dueSame("remove of what is not there changes nothing", Check.stateOf(x), before);
    }

    private static void isAWrite() {
        CuckooPages x = new CuckooPages();
        x.put(5, 50);
        x.sync();
        x.remove(5);
        Check.due("writes that wait", x.count(1), 1);
        x.crash(0);
        Check.due("has(5), the remove being lost", x.has(5), true);
        x.remove(5);
        x.crash(1);
        Check.due("has(5), the remove being done", x.has(5), false);
    }
}

/** Promise 6: remove. */
final class RemoveTest {
    private RemoveTest() {
    }

    public static void main(String[] args) {
        Check.sentence("A KEY's SLOT is empty", RemoveTest::itsSlotIsEmpty);
        Check.sentence("A KEY's SLOT is empty (and no other one)", RemoveTest::noOtherSlot);
        Check.sentence("(a WRITE)", RemoveTest::isAWrite);
        Check.sentence("whether it was there", RemoveTest::whetherItWasThere);
        Check.sentence("whether it was there (it was not: no WRITE)", RemoveTest::whatIsNotThere);
        Check.sentence("remove: nothing moves into the SLOT", RemoveTest::nothingMoves);
        Check.end();
    }

    private static int[] keys() {
        return Keys.withHomes(13, 1, 6, 2);
    }

    private static CuckooPages stuffed() {
        return Keys.stuffed(new CuckooPages(), keys());
    }

    private static void itsSlotIsEmpty() {
        for (int i = 0; i < 12; i++) {
            CuckooPages x = stuffed();
            x.remove(keys()[i]);
            int page = i < 4 ? 6 : i < 8 ? 2 : 8;
            for (int what = 0; what < 3; what++) {
                Check.due("slot of what was removed", x.slot(page, i % 4, what), 0);
            }
            Check.due("keys", x.count(0), 11);
            Check.due("keys in the stash", x.count(3), i < 8 ? 4 : 3);
        }
    }

    private static void noOtherSlot() {
        for (int i = 0; i < 12; i++) {
            CuckooPages x = stuffed();
            x.remove(keys()[i]);
            for (int other = 0; other < 12; other++) {
                Check.due("get of key " + other, x.get(keys()[other]), other == i ? 0 : 100 + other);
            }
        }
    }

    private static void isAWrite() {
        for (int i = 0; i < 12; i += 3) {
            CuckooPages x = stuffed();
            x.sync();
            x.remove(keys()[i]);
            Check.due("writes that wait", x.count(1), 1);
            Check.due("writes ever", x.count(2), 13);
            x.crash(0);
            Check.due("has it, the remove being lost", x.has(keys()[i]), true);
            x.remove(keys()[i]);
            x.crash(1);
            Check.due("has it, the remove being done", x.has(keys()[i]), false);
        }
    }

    private static void whetherItWasThere() {
        CuckooPages x = stuffed();
        for (int i = 0; i < 12; i++) {
            Check.due("remove of key " + i, x.remove(keys()[i]), true);
            Check.due("remove of key " + i + " again", x.remove(keys()[i]), false);
        }
        Check.due("keys", x.count(0), 0);
        for (int key : new int[] {0, -1, Integer.MIN_VALUE, Integer.MAX_VALUE}) {
            x.put(key, 0);
            Check.due("remove(" + key + ")", x.remove(key), true);
        }
    }

    private static void whatIsNotThere() {
        CuckooPages x = stuffed();
        Check.due("remove of what was never put", x.remove(keys()[12]), false);
        for (int key : new int[] {-1, Integer.MIN_VALUE, Integer.MAX_VALUE}) {
            Check.due("remove(" + key + ")", x.remove(key), false);
        }
        Check.dueTwins("remove of what is not there changes nothing", x, stuffed(), 5);
        CuckooPages y = new CuckooPages();
        Check.due("remove(0) of a new object", y.remove(0), false);
        Check.due("writes ever", y.count(2), 0);
    }

    private static void nothingMoves() {
        CuckooPages x = stuffed();
        x.remove(keys()[0]);
        Check.due("the second home's key", x.slot(2, 0, 1), keys()[4]);
        Check.due("the stash's key", x.slot(8, 0, 1), keys()[8]);
        Check.due("the next slot's key", x.slot(6, 1, 1), keys()[1]);
        Check.due("put into the slot again", x.put(keys()[12], 7), 1);
        Check.due("the slot's key", x.slot(6, 0, 1), keys()[12]);
    }
}

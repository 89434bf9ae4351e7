/** Promise 7: sync. */
final class SyncTest {
    private SyncTest() {
    }

    public static void main(String[] args) {
        Check.sentence("All WRITES are DONE", SyncTest::allAreDone);
        Check.sentence("All WRITES are DONE (none waits any more)", SyncTest::noneWaits);
        Check.sentence("how many waited", SyncTest::howManyWaited);
        Check.sentence("how many waited (none)", SyncTest::noneWaited);
        Check.sentence("how many waited (40, and of 41 just one)", SyncTest::fortyAndOne);
        Check.sentence("sync: nothing else changes", SyncTest::nothingElse);
        Check.end();
    }

    private static void allAreDone() {
        CuckooPages x = new CuckooPages();
        for (int key = 0; key < 10; key++) {
            x.put(key, key + 1);
        }
        x.remove(4);
        x.sync();
        x.crash(0);
        for (int key = 0; key < 10; key++) {
            Check.due("get(" + key + ") behind sync and crash", x.get(key), key == 4 ? 0 : key + 1);
        }
    }

    private static void noneWaits() {
        CuckooPages x = new CuckooPages();
        x.put(5, 50);
        x.put(5, 51);
        x.sync();
        Check.due("writes that wait", x.count(1), 0);
        Check.due("crash behind a sync", x.crash(0), 0);
        Check.due("get(5)", x.get(5), 51);
    }

    private static void howManyWaited() {
        CuckooPages x = new CuckooPages();
        x.put(5, 50);
        x.put(5, 51);
        x.remove(5);
        x.put(5, 52);
        Check.due("sync", x.sync(), 4);
        x.put(6, 60);
        Check.due("sync of what came since", x.sync(), 1);
    }

    private static void noneWaited() {
        CuckooPages x = new CuckooPages();
        Check.due("sync of a new object", x.sync(), 0);
        x.remove(5);
        Check.due("sync behind a remove of nothing", x.sync(), 0);
        x.put(5, 50);
        x.sync();
        Check.due("sync again", x.sync(), 0);
        x.put(6, 60);
        x.crash(0);
        Check.due("sync behind a crash", x.sync(), 0);
        Check.due("has(6)", x.has(6), false);
    }

    private static void fortyAndOne() {
        for (int many = 39; many <= 42; many++) {
            CuckooPages x = new CuckooPages();
            for (int i = 0; i < many; i++) {
                x.put(9, i);
            }
            Check.due("sync behind " + many + " writes", x.sync(), many <= 40 ? many : many - 40);
            x.crash(0);
            Check.due("get(9)", x.get(9), many - 1);
        }
    }

    private static void nothingElse() {
        Layout at = new Layout();
        at.fill(1, 6, 4, 4, 4);
        at.fill(4, 1, 1, 1, 1);
        at.put(1, 4, 2);
        String slots = Check.slotsOf(at.x);
        Check.due("sync", at.x.sync(), 12);
        Check.dueSame("slots", Check.slotsOf(at.x), slots);
        Check.due("writes ever", at.x.count(2), 12);
        Check.due("slots of the last path", at.x.count(7), 2);
        Check.due("slots that a journal told", at.x.count(8), 0);
    }
}

/** Under "What it is" and "Terms": the sentences on SETS, PAGES, SLOTS, ROOT and JOURNAL, and on what is refused. */
final class TermsTest {
    private static final int LEAST = Integer.MIN_VALUE;
    private static final int GREATEST = Integer.MAX_VALUE;

    private TermsTest() {
    }

    public static void main(String[] args) {
        Check.sentence("An object is used for at most 512 calls (and for that many)", TermsTest::calls512);
        Check.sentence("SETS 0 and 1 have nine PAGES each (0)", TermsTest::ninePagesOfSetZero);
        Check.sentence("SETS 0 and 1 have nine PAGES each (1)", TermsTest::ninePagesOfSetOne);
        Check.sentence("BUCKETS 0 .. 7, and the STASH (8)", TermsTest::stashIsPageEight);
        Check.sentence("a PAGE has four SLOTS, 0 first", TermsTest::fourSlots);
        Check.sentence("each empty or with a KEY and a VALUE (0 and 0 are not empty)", TermsTest::zeroIsNotEmpty);
        Check.sentence("(ints)", TermsTest::anyInts);
        Check.sentence("ROOT tells which SET is in use, and which SEED (0 at first, both)", TermsTest::rootAtFirst);
        Check.sentence("the JOURNAL tells some SLOTS of that SET (1)", TermsTest::journalInSetOne);
        Check.sentence("the JOURNAL tells .. or nothing", TermsTest::journalAtFirst);
        Check.sentence("IllegalArgument is thrown where a number is none of those told here.", TermsTest::refused);
        Check.sentence("What throws .. changes nothing.", TermsTest::throwingChangesNothing);
        Check.sentence("What .. is FULL, changes nothing.", TermsTest::fullChangesNothing);
        Check.sentence("What .. is FULL, changes nothing. (in SET 1)", TermsTest::fullInSetOneChangesNothing);
        Check.end();
    }

    /** 256 times put and get: the last one of them is the 512th call. */
    private static void calls512() {
        CuckooPages x = new CuckooPages();
        for (int i = 1; i <= 256; i++) {
            int key = i % 10;
            Check.due("put, call " + (2 * i - 1), x.put(key, i), i <= 10 ? 1 : 0);
            Check.due("get, call " + 2 * i, x.get(key), i);
        }
    }

    private static void dueNinePages(Layout at) {
        int[][] keys = new int[9][4];
        for (int page = 0; page < 8; page++) {
            int other = (page + 3) % 8;
            keys[page] = at.fill(page, other, other, other, other);
        }
        for (int slot = 0; slot < 4; slot++) {
            keys[8][slot] = at.put(1, 4, 3);
        }
        for (int place = 0; place < 36; place++) {
            at.dueSlot(place / 4, place % 4, keys[place / 4][place % 4]);
        }
        Check.due("keys", at.x.count(0), 36);
    }

    private static void ninePagesOfSetZero() {
        dueNinePages(new Layout());
    }

    private static void ninePagesOfSetOne() {
        Layout at = new Layout();
        at.goToSetOne();
        dueNinePages(at);
    }

    private static void stashIsPageEight() {
        Layout at = new Layout();
        at.close(7, 0);
        int put = at.put(7, 0, 3);
        at.dueSlot(8, 0, put);
        Check.due("keys in the stash", at.x.count(3), 1);
        Check.due("first home of the key", at.x.home(put, false), 7);
        Check.due("second home of the key", at.x.home(put, true), 0);
    }

    private static void fourSlots() {
        for (int page = 0; page < 8; page++) {
            Layout at = new Layout();
            int other = (page + 5) % 8;
            int[] keys = at.fill(page, other, other, other, other);
            for (int slot = 0; slot < 4; slot++) {
                at.dueSlot(page, slot, keys[slot]);
            }
            at.dueEmpty(other, 0);
            at.dueSlot(other, 0, at.put(page, other, 1));
        }
    }

    private static void zeroIsNotEmpty() {
        CuckooPages x = new CuckooPages();
        Check.due("put(0, 0)", x.put(0, 0), 1);
        Check.due("has(0)", x.has(0), true);
        Check.due("whether 5.0 has a key", x.slot(5, 0, 0), 1);
        Check.due("keys", x.count(0), 1);
        Check.due("put(0, 0) again", x.put(0, 0), 0);
        Check.due("remove(0)", x.remove(0), true);
        Check.due("whether 5.0 has a key, still", x.slot(5, 0, 0), 0);
        Check.due("has(0), still", x.has(0), false);
    }

    private static void anyInts() {
        CuckooPages x = new CuckooPages();
        int[] keys = {LEAST, GREATEST, -1, 1};
        int[] values = {GREATEST, LEAST, 0, -1};
        for (int i = 0; i < 4; i++) {
            x.put(keys[i], values[i]);
            int page = x.home(keys[i], false);
            int slot = 0;
            while (slot < 3 && x.slot(page, slot + 1, 0) == 1) {
                slot++;
            }
            Check.due("the key", x.slot(page, slot, 1), keys[i]);
            Check.due("the value", x.slot(page, slot, 2), values[i]);
        }
    }

    private static void rootAtFirst() {
        CuckooPages x = new CuckooPages();
        Check.due("the set", x.count(4), 0);
        Check.due("the seed", x.count(5), 0);
        x.seed(1, 88);
        x.seed(0, 77);
        Check.due("home by seed 0", x.home(12, false), Keys.home(12, 77, false));
        x.put(12, 1);
        x.crash(0);
        Check.due("the set, THE DISK having nothing", x.count(4), 0);
        Check.due("the seed, THE DISK having nothing", x.count(5), 0);
        Check.due("home, THE DISK having nothing", x.home(12, false), Keys.home(12, 77, false));
    }

    private static void journalInSetOne() {
        for (int done = 1; done <= 3; done++) {
            Layout at = new Layout();
            at.goToSetOne();
            int mover = at.fill(1, 6, 4, 4, 4)[0];
            at.fill(4, 1, 1, 1, 1);
            at.x.sync();
            int put = at.put(1, 4, 2);
            at.x.crash(done);
            Check.due("slots that the journal told", at.x.count(8), 2);
            Check.due("the set", at.x.count(4), 1);
            at.dueSlot(1, 0, put);
            at.dueSlot(6, 0, mover);
            Check.due("keys", at.x.count(0), 9);
        }
    }

    private static void journalAtFirst() {
        CuckooPages x = new CuckooPages();
        x.crash(0);
        Check.due("slots that the journal told", x.count(8), 0);
        Check.due("keys", x.count(0), 0);
        x.put(5, 50);
        x.crash(1);
        Check.due("slots that the journal told behind a write", x.count(8), 0);
        Check.due("keys behind a write", x.count(0), 1);
    }

    /** Every call that takes a number of some few, with the next ones below and above them. */
    private static void dueRefused(CuckooPages x) {
        for (int k : new int[] {-1, 4, LEAST, GREATEST}) {
            Check.dueIllegalArgument("seed(" + k + ", 1)", () -> x.seed(k, 1));
            Check.dueIllegalArgument("slot(0, " + k + ", 0)", () -> x.slot(0, k, 0));
        }
        for (int page : new int[] {-1, 9, LEAST, GREATEST}) {
            Check.dueIllegalArgument("slot(" + page + ", 0, 0)", () -> x.slot(page, 0, 0));
            Check.dueIllegalArgument("count(" + page + ")", () -> x.count(page));
        }
        for (int what : new int[] {-1, 3, LEAST, GREATEST}) {
            Check.dueIllegalArgument("slot(0, 0, " + what + ")", () -> x.slot(0, 0, what));
        }
        for (int done : new int[] {-1, LEAST}) {
            Check.dueIllegalArgument("crash(" + done + ")", () -> x.crash(done));
        }
    }

    private static void refused() {
        dueRefused(new CuckooPages());
        dueRefused(withTwelveKeys());
        Layout at = new Layout();
        at.goToSetOne();
        dueRefused(at.x);
    }

    /** Of the twelve writes five are done. */
    private static CuckooPages withTwelveKeys() {
        int[] keys = Keys.withHomes(12, 1, 2, 6);
        CuckooPages x = new CuckooPages();
        for (int i = 0; i < 12; i++) {
            x.put(keys[i], 100 + i);
            if (i == 4) {
                x.sync();
            }
        }
        return x;
    }

    private static void throwingChangesNothing() {
        CuckooPages fresh = new CuckooPages();
        dueRefused(fresh);
        fresh.seed(3, 9);
        Check.due("writes of a new object", fresh.count(2), 0);
        for (int done = 0; done <= 7; done += 3) {
            CuckooPages x = withTwelveKeys();
            dueRefused(x);
            for (int k = 0; k < 4; k++) {
                int which = k;
                Check.dueIllegalState("seed(" + k + ", 9)", () -> x.seed(which, 9));
            }
            Check.dueTwins("what throws changes nothing", x, withTwelveKeys(), done);
        }
    }

    /** Twelve keys that crowd by every seed, of which the last four writes wait. */
    private static CuckooPages soonFull(CuckooPages x, int[] keys) {
        for (int i = 0; i < 12; i++) {
            x.put(keys[i], 100 + i);
            if (i == 7) {
                x.sync();
            }
        }
        return x;
    }

    private static CuckooPages withTwoSeeds() {
        CuckooPages x = new CuckooPages();
        for (int k = 0; k < 4; k++) {
            x.seed(k, 1 + k % 2);
        }
        return x;
    }

    private static void fullChangesNothing() {
        int[] keys = Keys.crowded(13, 1, 2);
        for (int done = 0; done <= 4; done += 2) {
            CuckooPages x = soonFull(withTwoSeeds(), keys);
            Check.due("put of the 13th key", x.put(keys[12], 1), CuckooPages.FULL);
            Check.due("put of the 13th key, again", x.put(keys[12], 2), CuckooPages.FULL);
            Check.due("has it", x.has(keys[12]), false);
            Check.dueTwins("FULL changes nothing", x, soonFull(withTwoSeeds(), keys), done);
        }
    }

    private static CuckooPages emptyInSetOne() {
        CuckooPages x = withTwoSeeds();
        int[] keys = Keys.withHomes(13, 1, 3, 5);
        Keys.stuffed(x, keys);
        Check.due("put that makes anew", x.put(keys[12], 1), 4);
        Keys.removeAll(x, keys);
        x.sync();
        return x;
    }

    private static void fullInSetOneChangesNothing() {
        int[] keys = Keys.crowded(13, 1, 2);
        CuckooPages x = soonFull(emptyInSetOne(), keys);
        Check.due("put of the 13th key", x.put(keys[12], 1), CuckooPages.FULL);
        Check.due("the set", x.count(4), 1);
        Check.due("times of making anew", x.count(6), 1);
        Check.dueTwins("FULL changes nothing", x, soonFull(emptyInSetOne(), keys), 1);
    }
}

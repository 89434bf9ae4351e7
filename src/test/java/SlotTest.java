/** Promise 9: slot. */
final class SlotTest {
    private static final int LEAST = Integer.MIN_VALUE;
    private static final int GREATEST = Integer.MAX_VALUE;

    private SlotTest() {
    }

    public static void main(String[] args) {
        Check.sentence("what = 0 whether it has a KEY (1 or 0)", SlotTest::whetherItHasAKey);
        Check.sentence("1 the KEY", SlotTest::theKey);
        Check.sentence("2 the VALUE", SlotTest::theValue);
        Check.sentence("(0 if it is empty): never told", SlotTest::neverTold);
        Check.sentence("(0 if it is empty): removed", SlotTest::removed);
        Check.sentence("Of a SLOT 0 .. 3", SlotTest::slotsOfAPage);
        Check.sentence("of a PAGE 0 .. 8", SlotTest::pages);
        Check.sentence("of the SET in use", SlotTest::setInUse);
        Check.sentence("IllegalArgument. (PAGE)", SlotTest::noSuchPage);
        Check.sentence("IllegalArgument. (SLOT)", SlotTest::noSuchSlot);
        Check.sentence("IllegalArgument. (what)", SlotTest::noSuchWhat);
        Check.sentence("IllegalArgument. (SLOTS of the next PAGE are none of this one)", SlotTest::noWayAround);
        Check.end();
    }

    /** By seed 1 the homes of 0 are 5 and 0, those of -7 are 2 and 6. */
    private static CuckooPages withTwoKeys() {
        CuckooPages x = new CuckooPages();
        x.put(0, LEAST);
        x.put(-7, 0);
        return x;
    }

    private static void whetherItHasAKey() {
        CuckooPages x = withTwoKeys();
        for (int place = 0; place < 36; place++) {
            boolean held = place == 5 * 4 || place == 2 * 4;
            Check.due("whether place " + place + " has a key", x.slot(place / 4, place % 4, 0), held ? 1 : 0);
        }
    }

    private static void theKey() {
        CuckooPages x = withTwoKeys();
        Check.due("key of 5.0", x.slot(5, 0, 1), 0);
        Check.due("key of 2.0", x.slot(2, 0, 1), -7);
        x.put(GREATEST, 1);
        Check.due("key of 0.0", x.slot(0, 0, 1), GREATEST);
    }

    private static void theValue() {
        CuckooPages x = withTwoKeys();
        Check.due("value of 5.0", x.slot(5, 0, 2), LEAST);
        Check.due("value of 2.0", x.slot(2, 0, 2), 0);
        x.put(-7, GREATEST);
        Check.due("value of 2.0, told anew", x.slot(2, 0, 2), GREATEST);
    }

    private static void neverTold() {
        CuckooPages x = withTwoKeys();
        for (int what = 0; what < 3; what++) {
            Check.due("slot 1 of page 5", x.slot(5, 1, what), 0);
            Check.due("slot 0 of page 0", x.slot(0, 0, what), 0);
            Check.due("slot 3 of page 8", x.slot(8, 3, what), 0);
        }
    }

    private static void removed() {
        CuckooPages x = withTwoKeys();
        x.put(-7, 70);
        x.remove(-7);
        x.remove(0);
        for (int what = 0; what < 3; what++) {
            Check.due("slot 0 of page 2", x.slot(2, 0, what), 0);
            Check.due("slot 0 of page 5", x.slot(5, 0, what), 0);
        }
        x.sync();
        x.crash(0);
        for (int what = 0; what < 3; what++) {
            Check.due("slot 0 of page 2 behind a crash", x.slot(2, 0, what), 0);
        }
    }

    private static void slotsOfAPage() {
        Layout at = new Layout();
        int[] keys = at.fill(3, 5, 5, 5, 5);
        for (int slot = 0; slot < 4; slot++) {
            at.dueSlot(3, slot, keys[slot]);
        }
    }

    private static void pages() {
        Layout at = new Layout();
        for (int page = 0; page < 8; page++) {
            at.dueSlot(page, 0, at.put(page, (page + 3) % 8, 1));
        }
        CuckooPages x = Keys.stuffed(new CuckooPages(), Keys.withHomes(12, 1, 2, 6));
        Check.due("value of slot 3 of page 8", x.slot(8, 3, 2), 111);
    }

    /** Behind making anew the old set still has its keys, and is not the one that is told. */
    private static void setInUse() {
        int[] keys = Keys.withHomes(13, 1, 2, 6);
        CuckooPages x = Keys.stuffed(new CuckooPages(), keys);
        x.sync();
        String before = Check.slotsOf(x);
        Check.due("put that makes anew", x.put(keys[12], 7), 4);
        int found = 0;
        for (int place = 0; place < 36; place++) {
            if (x.slot(place / 4, place % 4, 0) == 1) {
                int key = x.slot(place / 4, place % 4, 1);
                int page = place / 4;
                boolean home = Keys.home(key, 2, false) == page || Keys.home(key, 2, true) == page || page == 8;
                Check.due("a key stands in one of its homes by seed 1, or the stash", home, true);
                found++;
            }
        }
        Check.due("slots with a key", found, 13);
        x.crash(0);
        Check.dueSame("slots of set 0 again", Check.slotsOf(x), before);
    }

    private static void noSuchPage() {
        CuckooPages x = withTwoKeys();
        for (int page : new int[] {-1, 9, 17, 18, LEAST, GREATEST}) {
            for (int what = 0; what < 3; what++) {
                int of = what;
                Check.dueIllegalArgument("slot(" + page + ", 0, " + of + ")", () -> x.slot(page, 0, of));
            }
        }
        Check.dueTwins("slot() of no page changes nothing", x, withTwoKeys(), 1);
    }

    private static void noSuchSlot() {
        CuckooPages x = withTwoKeys();
        for (int slot : new int[] {-1, 4, 5, LEAST, GREATEST}) {
            for (int page = 0; page < 9; page++) {
                int of = page;
                Check.dueIllegalArgument("slot(" + of + ", " + slot + ", 0)", () -> x.slot(of, slot, 0));
            }
        }
        Check.dueTwins("slot() of no slot changes nothing", x, withTwoKeys(), 1);
    }

    private static void noSuchWhat() {
        CuckooPages x = withTwoKeys();
        for (int what : new int[] {-1, 3, LEAST, GREATEST}) {
            Check.dueIllegalArgument("slot(5, 0, " + what + ")", () -> x.slot(5, 0, what));
            Check.dueIllegalArgument("slot(0, 3, " + what + ") of an empty slot", () -> x.slot(0, 3, what));
        }
        Check.dueTwins("slot() of no what changes nothing", x, withTwoKeys(), 1);
    }

    private static void noWayAround() {
        CuckooPages x = withTwoKeys();
        Check.dueIllegalArgument("slot(4, 4, 0), which is not 5.0", () -> x.slot(4, 4, 0));
        Check.dueIllegalArgument("slot(6, -4, 0), which is not 5.0", () -> x.slot(6, -4, 0));
        Check.dueIllegalArgument("slot(-1, 24, 0), which is not 5.0", () -> x.slot(-1, 24, 0));
        Check.dueIllegalArgument("slot(9, -16, 0), which is not 5.0", () -> x.slot(9, -16, 0));
    }
}

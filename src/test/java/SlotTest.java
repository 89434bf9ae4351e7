/** Promise 9: slot. */
final class SlotTest {
    private static final int LEAST = Integer.MIN_VALUE;
    private static final int GREATEST = Integer.MAX_VALUE;

    private SlotTest() {
    }

    public static void main(String[] args) {
        tellsASlot();
        tellsTheSetInUse();
        wrongNumbers();
        Check.end();
    }

    private static void tellsASlot() {
        CuckooPages x = new CuckooPages();
        // by seed 1 the homes of 0 are 5 and 0, those of -7 are 2 and 6
        x.put(0, LEAST);
        x.put(-7, 0);
        int[][] due = {{5, 0, 1, 0, LEAST}, {2, 0, 1, -7, 0}, {5, 1, 0, 0, 0}, {8, 3, 0, 0, 0}, {0, 0, 0, 0, 0}};
        for (int[] row : due) {
            for (int what = 0; what < 3; what++) {
                Check.due("slot " + row[1] + " of page " + row[0], x.slot(row[0], row[1], what), row[2 + what]);
            }
        }
        x.remove(-7);
        for (int what = 0; what < 3; what++) {
            Check.due("slot emptied", x.slot(2, 0, what), 0);
        }
    }

    private static void tellsTheSetInUse() {
        int[] keys = Keys.withHomes(13, 1, 2, 6);
        CuckooPages x = Keys.stuffed(new CuckooPages(), keys);
        Check.due("put by making anew", x.put(keys[12], 7), 4);
        int found = 0;
        for (int place = 0; place < 36; place++) {
            found += x.slot(place / 4, place % 4, 0);
            if (x.slot(place / 4, place % 4, 0) == 1 && place / 4 < 8) {
                int key = x.slot(place / 4, place % 4, 1);
                boolean home = x.home(key, false) == place / 4 || x.home(key, true) == place / 4;
                Check.due("a key stands in one of its homes", home, true);
            }
        }
        Check.due("slots with a key", found, 13);
    }

    private static void wrongNumbers() {
        CuckooPages x = new CuckooPages();
        x.put(5, 50);
        String before = Check.stateOf(x);
        for (int page : new int[] {-1, 9, LEAST, GREATEST}) {
            Check.dueIllegalArgument("slot(" + page + ", 0, 0)", () -> x.slot(page, 0, 0));
        }
        for (int slot : new int[] {-1, 4, LEAST, GREATEST}) {
            Check.dueIllegalArgument("slot(8, " + slot + ", 0)", () -> x.slot(8, slot, 0));
        }
        for (int what : new int[] {-1, 3, LEAST, GREATEST}) {
            Check.dueIllegalArgument("slot(6, 0, " + what + ")", () -> x.slot(6, 0, what));
            Check.dueIllegalArgument("slot(0, 3, " + what + ") of an empty slot", () -> x.slot(0, 3, what));
        }
        Check.dueSame("wrong numbers change nothing", Check.stateOf(x), before);
    }
}

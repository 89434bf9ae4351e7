/** Promise 8: crash. */
final class CrashTest {
    private CrashTest() {
    }

    public static void main(String[] args) {
        keepsTheFirst();
        wrongNumbers();
        keepsAPageAsItWas();
        amidAPath();
        amidMakingAnew();
        anewOverWhatWasLost();
        Check.end();
    }

    private static void keepsTheFirst() {
        for (int done = 0; done <= 7; done++) {
            CuckooPages x = new CuckooPages();
            for (int key = 0; key < 5; key++) {
                x.put(key, key + 1);
            }
            int kept = Math.min(done, 5);
            Check.due("crash(" + done + ")", x.crash(done), 5 - kept);
            for (int key = 0; key < 5; key++) {
                Check.due("has(" + key + ")", x.has(key), key < kept);
            }
            Check.due("writes that wait", x.count(1), 0);
            Check.due("writes ever", x.count(2), 5);
            Check.due("a second crash", x.crash(0), 0);
            Check.due("keys", x.count(0), kept);
        }
        CuckooPages y = new CuckooPages();
        y.put(1, 1);
        Check.due("crash(the greatest int)", y.crash(Integer.MAX_VALUE), 0);
        Check.due("has(1)", y.has(1), true);
    }

    private static void wrongNumbers() {
        CuckooPages x = new CuckooPages();
        x.put(5, 50);
        String before = Check.stateOf(x);
        Check.dueIllegalArgument("crash(-1)", () -> x.crash(-1));
        Check.dueIllegalArgument("crash(the least int)", () -> x.crash(Integer.MIN_VALUE));
        Check.dueSame("a wrong crash changes nothing", Check.stateOf(x), before);
    }

    /** Both keys stand on one page: the first write of it must not bring the second key along. */
    private static void keepsAPageAsItWas() {
        int[] keys = Keys.withHomes(2, 1, 3, 5);
        CuckooPages x = new CuckooPages();
        x.put(keys[0], 1);
        x.put(keys[1], 2);
        x.put(keys[0], 3);
        x.crash(1);
        Check.due("get of the first", x.get(keys[0]), 1);
        Check.due("has the second", x.has(keys[1]), false);
        x.put(keys[1], 4);
        x.put(keys[0], 5);
        x.crash(1);
        Check.due("get of the first, again", x.get(keys[0]), 1);
        Check.due("get of the second", x.get(keys[1]), 4);
    }

    /** Three slots and five writes: lost before the journal is done, whole from then on. */
    private static void amidAPath() {
        int[] keys = Keys.withHomes(8, 1, 1, 4);
        int[] mover = Keys.withHomes(1, 1, 4, 6);
        for (int done = 0; done <= 6; done++) {
            CuckooPages x = new CuckooPages();
            for (int i = 0; i < 5; i++) {
                x.put(keys[i], i);
            }
            x.put(mover[0], 50);
            x.put(keys[5], 5);
            x.put(keys[6], 6);
            x.sync();
            String before = slotsOf(x);
            Check.due("put by a path", x.put(keys[7], 7), 2);
            Check.due("slots of the path", x.count(7), 3);
            String after = slotsOf(x);
            Check.due("crash(" + done + ") amid a path", x.crash(done), Math.max(0, 5 - done));
            Check.dueSame("what crash(" + done + ") left", slotsOf(x), done == 0 ? before : after);
            Check.due("slots that the journal told", x.count(8), done >= 1 && done <= 4 ? 3 : 0);
            Check.due("writes ever", x.count(2), 13);
            Check.due("writes that wait", x.count(1), 0);
            Check.due("slots of the last path, lost or not", x.count(7), 3);
            x.put(mover[0], 51);
            x.crash(0);
            Check.due("the journal is told once", x.count(8), 0);
            Check.dueSame("the recovery is done", slotsOf(x), done == 0 ? before : after);
        }
    }

    private static String slotsOf(CuckooPages x) {
        StringBuilder slots = new StringBuilder();
        for (int place = 0; place < 36; place++) {
            for (int what = 0; what < 3; what++) {
                slots.append(x.slot(place / 4, place % 4, what)).append(' ');
            }
        }
        return slots.toString();
    }

    private static void amidMakingAnew() {
        int[] keys = Keys.withHomes(13, 1, 2, 6);
        for (int done = 0; done <= 11; done++) {
            CuckooPages x = Keys.stuffed(new CuckooPages(), keys);
            x.sync();
            String before = slotsOf(x);
            Check.due("put by making anew", x.put(keys[12], 7), 4);
            String after = slotsOf(x);
            Check.due("crash amid making anew", x.crash(done), Math.max(0, 10 - done));
            boolean kept = done >= 10;
            Check.dueSame("what the crash left", slotsOf(x), kept ? after : before);
            Check.due("the set", x.count(4), kept ? 1 : 0);
            Check.due("the seed", x.count(5), kept ? 1 : 0);
            Check.due("times of making anew, lost or not", x.count(6), 1);
            Check.due("home", x.home(5, false), Keys.home(5, kept ? 2 : 1, false));
        }
    }

    /** Pages of a making anew that was lost stand on the disk; the next one must not meet them. */
    private static void anewOverWhatWasLost() {
        int[] keys = Keys.withHomes(14, 1, 2, 6);
        CuckooPages x = Keys.stuffed(new CuckooPages(), keys);
        x.sync();
        x.put(keys[12], 7);
        x.crash(9);
        Check.due("put by making anew, again", x.put(keys[13], 8), 4);
        Check.due("has the key that was lost", x.has(keys[12]), false);
        Check.due("keys", x.count(0), 13);
        x.sync();
        x.crash(0);
        Check.due("keys behind a crash", x.count(0), 13);
        Check.due("times of making anew", x.count(6), 2);
    }
}

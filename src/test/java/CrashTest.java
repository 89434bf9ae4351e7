/** Promise 8, crash, and under "Terms" the sentences of A CRASH and RECOVERY. */
final class CrashTest {
    private CrashTest() {
    }

    public static void main(String[] args) {
        Check.sentence("the first so many of the WRITES that wait are DONE, the others are lost", CrashTest::theFirst);
        Check.sentence("A CRASH, so many WRITES being DONE (none)", CrashTest::none);
        Check.sentence("(all, if fewer wait)", CrashTest::allIfFewerWait);
        Check.sentence("how many are lost", CrashTest::howManyAreLost);
        Check.sentence("IllegalArgument: below 0.", CrashTest::belowZero);
        Check.sentence("RECOVERY from THE DISK", CrashTest::fromTheDisk);
        Check.sentence("if the JOURNAL tells something, those SLOTS are told so", CrashTest::amidAPath);
        Check.sentence("if the JOURNAL tells something, .. (else not)", CrashTest::journalTellsNothing);
        Check.sentence("and it tells nothing", CrashTest::toldOnce);
        Check.sentence("all of it is DONE", CrashTest::allIsDone);
        Check.end();
    }

    private static CuckooPages withFiveKeys() {
        CuckooPages x = new CuckooPages();
        for (int key = 0; key < 5; key++) {
            x.put(key, key + 1);
        }
        return x;
    }

    private static void dueFirstKeys(CuckooPages x, int many) {
        for (int key = 0; key < 5; key++) {
            Check.due("has(" + key + ")", x.has(key), key < many);
            Check.due("get(" + key + ")", x.get(key), key < many ? key + 1 : 0);
        }
        Check.due("keys", x.count(0), many);
    }

    private static void theFirst() {
        for (int done = 1; done <= 4; done++) {
            CuckooPages x = withFiveKeys();
            x.crash(done);
            dueFirstKeys(x, done);
            Check.due("writes that wait", x.count(1), 0);
        }
    }

    private static void none() {
        CuckooPages x = withFiveKeys();
        Check.due("crash(0)", x.crash(0), 5);
        dueFirstKeys(x, 0);
        Check.dueSame("all being lost, slots", Check.slotsOf(x), Check.slotsOf(new CuckooPages()));
    }

    private static void allIfFewerWait() {
        for (int done : new int[] {5, 6, 40, 41, Integer.MAX_VALUE}) {
            CuckooPages x = withFiveKeys();
            Check.due("crash(" + done + ") of five", x.crash(done), 0);
            dueFirstKeys(x, 5);
        }
        CuckooPages y = new CuckooPages();
        Check.due("crash of none", y.crash(1), 0);
        Check.due("crash of none", y.crash(Integer.MAX_VALUE), 0);
        y.put(3, 3);
        // what a crash has done or lost before does not come again
        Check.due("crash of one", y.crash(2), 0);
        Check.due("keys", y.count(0), 1);
    }

    private static void howManyAreLost() {
        for (int done = 0; done <= 7; done++) {
            CuckooPages x = withFiveKeys();
            Check.due("crash(" + done + ") of five", x.crash(done), Math.max(0, 5 - done));
            Check.due("a second crash", x.crash(0), 0);
            x.remove(0);
            Check.due("a third one", x.crash(0), done > 0 ? 1 : 0);
        }
    }

    private static void belowZero() {
        for (int done : new int[] {-1, -2, -40, Integer.MIN_VALUE}) {
            CuckooPages x = withFiveKeys();
            Check.dueIllegalArgument("crash(" + done + ")", () -> x.crash(done));
            Check.dueTwins("a crash below 0 changes nothing", x, withFiveKeys(), 3);
            Check.dueIllegalArgument("crash(" + done + ") of none", () -> x.crash(done));
        }
    }

    private static void fromTheDisk() {
        CuckooPages x = withFiveKeys();
        x.sync();
        x.remove(1);
        x.put(2, 99);
        x.put(77, 1);
        x.crash(0);
        dueFirstKeys(x, 5);
        Check.due("has(77)", x.has(77), false);
    }

    /** A path of three slots, so of five writes, is next; all before it is done. */
    private static Layout beforeAPath() {
        Layout at = new Layout();
        at.fill(1, 4, 4, 4, 4);
        at.fill(4, 1, 6, 1, 1);
        at.x.sync();
        return at;
    }

    private static void amidAPath() {
        for (int done = 0; done <= 6; done++) {
            Layout at = beforeAPath();
            String before = Check.slotsOf(at.x);
            at.put(1, 4, 2);
            Check.due("slots of the path", at.x.count(7), 3);
            String after = Check.slotsOf(at.x);
            Check.due("crash(" + done + ") amid a path", at.x.crash(done), Math.max(0, 5 - done));
            Check.dueSame("what crash(" + done + ") left", Check.slotsOf(at.x), done == 0 ? before : after);
            Check.due("slots that the journal told", at.x.count(8), done >= 1 && done <= 4 ? 3 : 0);
        }
    }

    /** The journal tells nothing by its last write: a slot of the path that has changed since is not told again. */
    private static void journalTellsNothing() {
        Layout at = beforeAPath();
        int put = at.put(1, 4, 2);
        at.x.put(put, 7);
        Check.due("crash that keeps all", at.x.crash(6), 0);
        Check.due("slots that the journal told", at.x.count(8), 0);
        Check.due("get of the key put", at.x.get(put), 7);
    }

    /** A journal that a recovery has read must not undo what comes behind it. */
    private static void toldOnce() {
        for (int done = 1; done <= 4; done++) {
            Layout at = beforeAPath();
            int put = at.put(1, 4, 2);
            at.x.crash(done);
            Check.due("slots that the journal told", at.x.count(8), 3);
            at.x.put(put, 7);
            at.x.sync();
            at.x.crash(0);
            Check.due("slots that the journal told, again", at.x.count(8), 0);
            Check.due("get of the key put", at.x.get(put), 7);
        }
    }

    private static void allIsDone() {
        for (int done = 1; done <= 4; done++) {
            Layout at = beforeAPath();
            at.put(1, 4, 2);
            String after = Check.slotsOf(at.x);
            at.x.crash(done);
            Check.due("writes that wait", at.x.count(1), 0);
            Check.due("crash behind the recovery", at.x.crash(0), 0);
            Check.dueSame("what the recovery told", Check.slotsOf(at.x), after);
            at.put(3, 5, 1);
            Check.due("crash behind one write more", at.x.crash(0), 1);
            Check.dueSame("what the recovery told, again", Check.slotsOf(at.x), after);
        }
    }
}

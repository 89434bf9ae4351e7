/** What the tests of the project share: answers that are due, sentences of the document, the end of a test. */
final class Check {
    /** A fault of the class spoils thousands of answers in the long runs: the first of them are enough. */
    private static final int MOST_PRINTED = 100;

    private static int asDue = 0;
    private static int wrong = 0;

    private Check() {
    }

    /** A test of its own for a sentence of the document; the next one is run whatever this one meets. */
    static void sentence(String words, Runnable test) {
        int before = wrong;
        try {
            test.run();
        } catch (RuntimeException e) {
            wrong++;
            System.out.println("thrown where nothing is due: " + e);
        }
        System.out.println((wrong == before ? "holds:  " : "BROKEN: ") + words);
    }

    static void due(String call, long got, long want) {
        if (got == want) {
            asDue++;
        } else {
            wrong++;
            if (wrong <= MOST_PRINTED) {
                System.out.println(call + " answered " + got + ", due is " + want);
            }
        }
    }

    static void due(String call, boolean got, boolean want) {
        due(call, got ? 1 : 0, want ? 1 : 0);
    }

    static void dueSame(String call, String got, String want) {
        due(call, got.equals(want), true);
        if (!got.equals(want) && wrong <= MOST_PRINTED) {
            System.out.println("  got " + got + "\n  due " + want);
        }
    }

    static void dueIllegalArgument(String call, Runnable run) {
        dueThrow(call, IllegalArgumentException.class, run);
    }

    static void dueIllegalState(String call, Runnable run) {
        dueThrow(call, IllegalStateException.class, run);
    }

    /** Exactly this exception, and neither a subclass of it nor another one. */
    private static void dueThrow(String call, Class<?> want, Runnable run) {
        Class<?> got = null;
        try {
            run.run();
        } catch (RuntimeException e) {
            got = e.getClass();
        }
        due(call + " throws " + want.getSimpleName() + " (it threw: " + got + ")", got == want, true);
    }

    /** Two objects answer alike, now and behind a crash that keeps so many writes. */
    static void dueTwins(String what, CuckooPages got, CuckooPages want, int done) {
        dueSame(what, stateOf(got), stateOf(want));
        due(what + ": writes that a crash loses", got.crash(done), want.crash(done));
        dueSame(what + ", behind a crash", stateOf(got), stateOf(want));
    }

    /** Every answer that tells the state, so that "changes nothing" can be looked at; 120 calls. */
    static String stateOf(CuckooPages x) {
        StringBuilder state = new StringBuilder();
        for (int what = 0; what <= 8; what++) {
            state.append(x.count(what)).append(' ');
        }
        for (int key = 0; key < 3; key++) {
            state.append(x.home(key, false)).append(' ');
        }
        return state.append(slotsOf(x)).toString();
    }

    /** What all slots of the set in use have; 108 calls. */
    static String slotsOf(CuckooPages x) {
        StringBuilder slots = new StringBuilder();
        for (int place = 0; place < 36; place++) {
            for (int what = 0; what < 3; what++) {
                slots.append(x.slot(place / 4, place % 4, what)).append(' ');
            }
        }
        return slots.toString();
    }

    static void end() {
        System.out.println(wrong == 0 ? asDue + " answers are as due" : wrong + " answers are not as due");
        if (wrong != 0) {
            System.exit(1);
        }
    }
}

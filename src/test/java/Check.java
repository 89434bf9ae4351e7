/** What the tests of the project share: answers that are due, and the end of a test. */
final class Check {
    /** A fault of the class spoils thousands of answers in the long runs: the first of them are enough. */
    private static final int MOST_PRINTED = 100;

    private static int asDue = 0;
    private static int wrong = 0;

    private Check() {
    }

    static void due(String call, long got, long want) {
        if (got == want) {
            asDue++;
        } else {
            wrong++;
            if (wrong <= MOST_PRINTED) {
                System.out.println(call + " answered " + got + ", due is " + want);
            }
        }
    }

    static void due(String call, boolean got, boolean want) {
        due(call, got ? 1 : 0, want ? 1 : 0);
    }

    /** Exactly this exception, and neither a subclass of it nor another one. */
    static void dueThrow(String call, Class<?> want, Runnable run) {
        Class<?> got = null;
        try {
            run.run();
        } catch (RuntimeException e) {
            got = e.getClass();
        }
        if (got != want) {
            System.out.println(call + " threw " + got + ", due is " + want);
        }
        due(call + " throws as due", got == want, true);
    }

    static void dueIllegalArgument(String call, Runnable run) {
        dueThrow(call, IllegalArgumentException.class, run);
    }

    /** Every answer that tells the state, so that "changes nothing" can be looked at. */
    static String stateOf(CuckooPages x) {
        StringBuilder state = new StringBuilder();
        for (int what = 0; what <= 8; what++) {
            state.append(x.count(what)).append(' ');
        }
        for (int page = 0; page < 9; page++) {
            for (int slot = 0; slot < 4; slot++) {
                for (int what = 0; what < 3; what++) {
                    state.append(x.slot(page, slot, what)).append(' ');
                }
            }
        }
        return state.toString();
    }

    static void dueSame(String call, String got, String want) {
        if (!got.equals(want)) {
            System.out.println(call + ": " + got + " instead of " + want);
        }
        due(call, got.equals(want), true);
    }

    static void end() {
        System.out.println(wrong == 0 ? asDue + " answers are as due" : wrong + " answers are not as due");
        if (wrong != 0) {
            System.exit(1);
        }
    }
}

import java.util.Random;
import java.util.TreeMap;

/** Promises 1 to 12 together: long runs of calls against the plain model, from fixed random numbers. */
final class ModelTest {
    private static final int RUNS = 3000;
    /** With 4 seeds and the 117 answers at the end, a run keeps within an object's 512 calls. */
    private static final int CALLS = 380;
    private static final String[] CASES = {
        "put answers -2", "put answers 0", "put answers 1", "put answers 2", "put answers 3", "put answers 4",
        "path of 2", "path of 3", "path of 4", "path of 5", "path of 6", "path of 7",
        "path from the first home", "path from the second home", "path without an end",
        "path comes upon a slot of its own", "path in making anew",
        "anew by seed 1 behind", "anew by seed 2 behind", "anew by seed 3 behind",
        "more than 40 writes", "more than 40 writes amid a path", "more than 40 writes amid making anew",
        "recovery by the journal", "crash that takes a set back"
    };

    private ModelTest() {
    }

    public static void main(String[] args) {
        TreeMap<String, Integer> met = new TreeMap<>();
        for (int run = 0; run < RUNS; run++) {
            new ModelRun(run, new Random(run), new PlainModel(met)).go(CALLS);
        }
        for (String name : CASES) {
            Check.due("the runs met: " + name, met.containsKey(name), true);
        }
        System.out.println("met: " + met);
        Check.end();
    }

    /** One object, one model, the same calls on both. */
    private static final class ModelRun {
        private final int run;
        private final Random random;
        private final PlainModel model;
        private final CuckooPages pages = new CuckooPages();
        private final int kind;

        ModelRun(int run, Random random, PlainModel model) {
            this.run = run;
            this.random = random;
            this.model = model;
            this.kind = run % 4;
        }

        void go(int calls) {
            tellSeeds();
            for (int i = 0; i < calls; i++) {
                call("run " + run + ", call " + i + ": ");
            }
            compareAll();
        }

        private void tellSeeds() {
            for (int k = 0; k < 4 && run % 3 != 0; k++) {
                // a narrow range makes seeds that are the same, so that making anew fails with few keys
                int value = run % 3 == 1 ? random.nextInt() : random.nextInt(3);
                pages.seed(k, value);
                model.seed(k, value);
            }
        }

        /** Kind 0: any ints; 1: few keys; 2: keys crowded on few buckets; 3: a mix of them. */
        private int key() {
            int how = kind == 3 ? random.nextInt(3) : kind;
            if (how == 0) {
                return random.nextInt();
            }
            if (how == 1) {
                return random.nextInt(60) - 10;
            }
            int seed = model.seeds[model.now.seed];
            int key = random.nextInt(500);
            while (Keys.home(key, seed, false) > 2 || Keys.home(key, seed, true) > 2) {
                key = random.nextInt(500);
            }
            return key;
        }

        private void call(String at) {
            int what = random.nextInt(102);
            int key = random.nextInt(3) == 0 && what >= 55 ? heldKey() : key();
            if (what < 60) {
                int value = random.nextInt(1000) - 500;
                Check.due(at + "put", pages.put(key, value), model.put(key, value));
            } else if (what < 70) {
                int gone = random.nextInt(4) == 0 ? key : heldKey();
                Check.due(at + "remove", pages.remove(gone), model.remove(gone));
            } else if (what < 72) {
                Check.due(at + "sync", pages.sync(), model.sync());
            } else if (what < 75) {
                int done = random.nextInt(45);
                Check.due(at + "crash", pages.crash(done), model.crash(done));
            } else if (what < 85) {
                int k = random.nextInt(9);
                Check.due(at + "count " + k, pages.count(k), model.count(k));
            } else if (what < 87) {
                Check.due(at + "has", pages.has(key), model.has(key));
            } else if (what < 90) {
                Check.due(at + "get", pages.get(key), model.get(key));
            } else if (what < 93) {
                Check.due(at + "reads", pages.reads(key), model.reads(key));
            } else if (what < 96) {
                Check.due(at + "home", pages.home(key, what < 94), model.home(key, what < 94));
            } else if (what < 100) {
                int page = random.nextInt(9);
                int slot = random.nextInt(4);
                int of = random.nextInt(3);
                Check.due(at + "slot", pages.slot(page, slot, of), model.slot(page, slot, of));
            } else {
                refusedCall(at + "refused call");
            }
        }

        /** The model is not told of it: what throws changes nothing. */
        private void refusedCall(String at) {
            int wrong = random.nextBoolean() ? -1 - random.nextInt(50) : 9 + random.nextInt(50);
            switch (random.nextInt(5)) {
                case 0 -> Check.dueIllegalArgument(at, () -> pages.seed(wrong, 5));
                case 1 -> Check.dueIllegalArgument(at, () -> pages.crash(-1 - Math.abs(wrong)));
                case 2 -> Check.dueIllegalArgument(at, () -> pages.slot(wrong, 0, 0));
                case 3 -> Check.dueIllegalArgument(at, () -> pages.slot(8, wrong, wrong & 1));
                default -> Check.dueIllegalArgument(at, () -> pages.count(wrong));
            }
        }

        private int heldKey() {
            int page = random.nextInt(9);
            int slot = random.nextInt(4);
            PlainModel.Pair pair = model.now.sets[model.now.set][page][slot];
            return pair == null ? key() : pair.key();
        }

        private void compareAll() {
            for (int what = 0; what <= 8; what++) {
                Check.due("run " + run + ", at its end: count " + what, pages.count(what), model.count(what));
            }
            for (int place = 0; place < 36; place++) {
                for (int what = 0; what < 3; what++) {
                    int got = pages.slot(place / 4, place % 4, what);
                    Check.due("run " + run + ", at its end: slot", got, model.slot(place / 4, place % 4, what));
                }
            }
        }
    }
}

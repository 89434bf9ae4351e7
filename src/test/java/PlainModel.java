import java.util.ArrayList;
import java.util.List;
import java.util.TreeMap;
import java.util.function.Consumer;

/**
 * The document once more, as plainly as the Java library allows and shaped otherwise than the class:
 * slots are objects, a WRITE is a deed that waits to be done on the disk.
 */
final class PlainModel {
    record Pair(int key, int value) {
    }

    record Spot(int page, int slot) {
    }

    record Told(Spot spot, Pair pair) {
    }

    static final class State {
        Pair[][][] sets = new Pair[2][9][4];
        int set = 0;
        int seed = 0;
        List<Told> journal = List.of();

        State copy() {
            State other = new State();
            for (int s = 0; s < 2; s++) {
                for (int p = 0; p < 9; p++) {
                    other.sets[s][p] = sets[s][p].clone();
                }
            }
            other.set = set;
            other.seed = seed;
            other.journal = journal;
            return other;
        }

        Pair at(Spot spot) {
            return sets[set][spot.page][spot.slot];
        }

        void tell(Spot spot, Pair pair) {
            sets[set][spot.page][spot.slot] = pair;
        }

        Spot emptyOf(int page) {
            for (int s = 0; s < 4; s++) {
                if (sets[set][page][s] == null) {
                    return new Spot(page, s);
                }
            }
            return null;
        }

        List<Pair> all() {
            List<Pair> pairs = new ArrayList<>();
            for (Pair[] page : sets[set]) {
                for (Pair pair : page) {
                    if (pair != null) {
                        pairs.add(pair);
                    }
                }
            }
            return pairs;
        }
    }

    final int[] seeds = {1, 2, 3, 4};
    State now = new State();
    State disk = new State();
    List<Consumer<State>> waiting = new ArrayList<>();
    int ever = 0;
    int anew = 0;
    int path = 0;
    int recovered = 0;
    /** What the runs came upon, by a name: a test of the model's that never meets a case tests it not. */
    final TreeMap<String, Integer> met;

    PlainModel(TreeMap<String, Integer> met) {
        this.met = met;
    }

    private void meet(String what) {
        met.merge(what, 1, Integer::sum);
    }

    private void write(Consumer<State> deed) {
        if (waiting.size() == 40) {
            sync();
            meet("more than 40 writes");
        }
        waiting.add(deed);
        ever++;
    }

    private void writePage(int set, int page) {
        Pair[] copy = now.sets[set][page].clone();
        write(d -> d.sets[set][page] = copy.clone());
    }

    private void writeJournal() {
        List<Told> told = now.journal;
        write(d -> d.journal = told);
    }

    int seed(int k, int value) {
        if (k < 0 || k > 3) {
            return 1;
        }
        if (ever > 0) {
            return 2;
        }
        seeds[k] = value;
        return 0;
    }

    private Spot spotOf(State state, int key) {
        int s = seeds[state.seed];
        for (int page : new int[] {Keys.home(key, s, false), Keys.home(key, s, true), 8}) {
            for (int slot = 0; slot < 4; slot++) {
                Pair pair = state.sets[state.set][page][slot];
                if (pair != null && pair.key == key) {
                    return new Spot(page, slot);
                }
            }
        }
        return null;
    }

    private List<Told> pathFrom(State state, int bucket, Pair put) {
        List<Told> told = new ArrayList<>();
        List<Spot> on = new ArrayList<>();
        int b = bucket;
        Pair carried = put;
        for (int t = 0; t <= 5; t++) {
            Spot next = null;
            for (int i = 0; i < 4 && next == null; i++) {
                Spot spot = new Spot(b, (t + i) % 4);
                if (!on.contains(spot)) {
                    next = spot;
                } else {
                    meet("path comes upon a slot of its own");
                }
            }
            if (next == null) {
                return null;
            }
            on.add(next);
            told.add(new Told(next, carried));
            carried = state.at(next);
            int one = Keys.home(carried.key, seeds[state.seed], false);
            b = one == b ? Keys.home(carried.key, seeds[state.seed], true) : one;
            Spot end = state.emptyOf(b);
            if (end != null) {
                told.add(new Told(end, carried));
                return told;
            }
        }
        meet("path without an end");
        return null;
    }

    /** What is to be told, from the end back, with the answer of put() as the key; null if it can't be. */
    private record Way(int answer, List<Told> told) {
    }

    private Way wayOf(State state, Pair put) {
        Spot there = spotOf(state, put.key);
        if (there != null) {
            return new Way(0, List.of(new Told(there, put)));
        }
        int[] homes = {Keys.home(put.key, seeds[state.seed], false), Keys.home(put.key, seeds[state.seed], true)};
        for (int home : homes) {
            Spot empty = state.emptyOf(home);
            if (empty != null) {
                return new Way(1, List.of(new Told(empty, put)));
            }
        }
        for (int home : homes) {
            List<Told> told = pathFrom(state, home, put);
            if (told != null) {
                meet(home == homes[0] ? "path from the first home" : "path from the second home");
                meet("path of " + told.size());
                return new Way(2, told);
            }
        }
        Spot empty = state.emptyOf(8);
        return empty == null ? null : new Way(3, List.of(new Told(empty, put)));
    }

    int put(int key, int value) {
        Pair put = new Pair(key, value);
        Way way = wayOf(now, put);
        if (way == null) {
            int answer = makeAnew(put) ? 4 : -2;
            meet("put answers " + answer);
            return answer;
        }
        int before = waiting.size();
        if (way.answer == 2) {
            now.journal = way.told;
            writeJournal();
        }
        for (int i = way.told.size() - 1; i >= 0; i--) {
            now.tell(way.told.get(i).spot, way.told.get(i).pair);
            writePage(now.set, way.told.get(i).spot.page);
        }
        if (way.answer == 2) {
            now.journal = List.of();
            writeJournal();
            path = way.told.size();
            if (before < 40 && waiting.size() < before) {
                meet("more than 40 writes amid a path");
            }
        }
        meet("put answers " + way.answer);
        return way.answer;
    }

    private boolean makeAnew(Pair put) {
        for (int step = 1; step <= 3; step++) {
            State trial = new State();
            trial.set = now.set == 0 ? 1 : 0;
            trial.seed = (now.seed + step) % 4;
            List<Pair> pairs = now.all();
            pairs.add(put);
            if (fits(trial, pairs)) {
                int before = waiting.size();
                now.sets[trial.set] = trial.sets[trial.set];
                for (int page = 0; page < 9; page++) {
                    writePage(trial.set, page);
                }
                now.set = trial.set;
                now.seed = trial.seed;
                write(d -> {
                    d.set = trial.set;
                    d.seed = trial.seed;
                });
                anew++;
                meet("anew by seed " + step + " behind");
                if (waiting.size() < before && before < 40) {
                    meet("more than 40 writes amid making anew");
                }
                return true;
            }
        }
        return false;
    }

    private boolean fits(State trial, List<Pair> pairs) {
        for (Pair pair : pairs) {
            Way way = wayOf(trial, pair);
            if (way == null) {
                return false;
            }
            if (way.answer == 2) {
                meet("path in making anew");
            }
            for (Told told : way.told) {
                trial.tell(told.spot, told.pair);
            }
        }
        return true;
    }

    boolean has(int key) {
        return spotOf(now, key) != null;
    }

    int get(int key) {
        return has(key) ? now.at(spotOf(now, key)).value : 0;
    }

    boolean remove(int key) {
        Spot spot = spotOf(now, key);
        if (spot == null) {
            return false;
        }
        now.tell(spot, null);
        writePage(now.set, spot.page);
        return true;
    }

    int sync() {
        return doFirst(waiting.size());
    }

    private int doFirst(int many) {
        for (int i = 0; i < many; i++) {
            waiting.get(i).accept(disk);
        }
        waiting.clear();
        return many;
    }

    int crash(int done) {
        int waited = waiting.size();
        int oldSet = now.set;
        int kept = doFirst(Math.min(done, waited));
        recovered = disk.journal.size();
        for (Told told : disk.journal) {
            disk.tell(told.spot, told.pair);
        }
        disk.journal = List.of();
        now = disk.copy();
        if (recovered > 0) {
            meet("recovery by the journal");
        }
        if (oldSet != now.set) {
            meet("crash that takes a set back");
        }
        return waited - kept;
    }

    int slot(int page, int slot, int what) {
        Pair pair = now.sets[now.set][page][slot];
        return pair == null ? 0 : what == 0 ? 1 : what == 1 ? pair.key : pair.value;
    }

    int home(int key, boolean second) {
        return Keys.home(key, seeds[now.seed], second);
    }

    int reads(int key) {
        Spot spot = spotOf(now, key);
        return spot == null || spot.page == 8 ? 3 : spot.page == home(key, false) ? 1 : 2;
    }

    int count(int what) {
        int stash = 0;
        for (Pair pair : now.sets[now.set][8]) {
            stash += pair == null ? 0 : 1;
        }
        int[] counts = {now.all().size(), waiting.size(), ever, stash, now.set, now.seed, anew, path, recovered};
        return counts[what];
    }
}

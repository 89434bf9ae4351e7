/**
 * A map on pages. Each key may be in one of two buckets, or in the stash; keys move on along a path
 * to make room, and all is made anew under another seed when no path is found. Writes wait to be
 * synced, and a crash keeps just the first ones of them.
 */
public final class CuckooPages {
    public static final int NONE = -1;
    public static final int FULL = -2;

    private static final int THERE = 0;
    private static final int AT_HOME = 1;
    private static final int BY_PATH = 2;
    private static final int IN_STASH = 3;
    private static final int ANEW = 4;

    private static final int BUCKETS = 8;
    private static final int STASH = 8;
    private static final int PAGES = 9;
    private static final int SLOTS = 4;
    private static final int SEEDS = 4;
    private static final int MOST_WAITING = 40;
    private static final int PATH_STEPS = 6;

    // Whatever one WRITE carries is one row, so that all WRITES are kept and done in the same way:
    // the PAGES of SET 0, those of SET 1, the ROOT, the JOURNAL.
    private static final int ROOT = 2 * PAGES;
    private static final int JOURNAL = ROOT + 1;
    private static final int ROWS = JOURNAL + 1;

    // The JOURNAL is the widest row: how many moves, then three cells for each of them.
    private static final int ENTRY = 3;
    private static final int MOST_MOVES = PATH_STEPS + 1;
    private static final int WIDTH = 1 + ENTRY * MOST_MOVES;

    private final int[] seeds;
    private final Image now;
    private final Image disk;
    private final Image trial;
    private final Waiting waiting;
    private final Moves moves;
    private int writesEver;
    private int timesAnew;
    private int lastPath;
    private int lastRecovery;

    public CuckooPages() {
        seeds = new int[] {1, 2, 3, 4};
        now = new Image();
        disk = new Image();
        trial = new Image();
        waiting = new Waiting();
        moves = new Moves();
    }

    public void seed(int k, int value) throws IllegalArgumentException, IllegalStateException {
        if (k < 0 || k >= seeds.length) {
            throw new IllegalArgumentException("no such seed");
        }
        if (writesEver != 0) {
            throw new IllegalStateException("there was a write already");
        }
        seeds[k] = value;
    }

    /** First looks for a way, which changes nothing, and only then goes it. */
    public int put(int key, int value) {
        int how = choose(now, seedInUse(now), key, value);
        for (int step = 1; step < SEEDS && how == FULL; step++) {
            if (fillTrial((now.seedTold() + step) % SEEDS, key, value)) {
                how = ANEW;
            }
        }
        if (how == ANEW) {
            takeTrial();
        } else if (how == BY_PATH) {
            followPath();
        } else if (how != FULL) {
            makeMoves();
        }
        return how;
    }

    public boolean has(int key) {
        return find(now, seedInUse(now), key) != NONE;
    }

    public int get(int key) {
        int place = find(now, seedInUse(now), key);
        return place == NONE ? 0 : now.valueAt(place);
    }

    public boolean remove(int key) {
        int place = find(now, seedInUse(now), key);
        if (place == NONE) {
            return false;
        }
        now.empty(place);
        write(rowOf(place));
        return true;
    }

    public int sync() {
        int waited = waiting.size();
        waiting.doFirst(waited, disk);
        return waited;
    }

    public int crash(int done) throws IllegalArgumentException {
        if (done < 0) {
            throw new IllegalArgumentException("fewer than no writes");
        }
        int waited = waiting.size();
        int kept = Math.min(done, waited);
        waiting.doFirst(kept, disk);
        recover();
        return waited - kept;
    }

    public int slot(int page, int slot, int what) throws IllegalArgumentException {
        if (page < 0 || page >= PAGES) {
            throw new IllegalArgumentException("no such page");
        }
        if (slot < 0 || slot >= SLOTS) {
            throw new IllegalArgumentException("no such slot");
        }
        if (what < 0 || what > 2) {
            throw new IllegalArgumentException("nothing such to tell of a slot");
        }
        int place = placeOf(now.rowInUse(page), slot);
        if (!now.holds(place)) {
            return 0;
        }
        if (what == 0) {
            return 1;
        }
        return what == 1 ? now.keyAt(place) : now.valueAt(place);
    }

    public int home(int key, boolean second) {
        return homeBy(seedInUse(now), key, second);
    }

    public int reads(int key) {
        int place = find(now, seedInUse(now), key);
        if (place == NONE || rowOf(place) == now.rowInUse(STASH)) {
            return 3;
        }
        return rowOf(place) == now.rowInUse(home(key, false)) ? 1 : 2;
    }

    public int count(int what) throws IllegalArgumentException {
        switch (what) {
            case 0:
                return allKeys();
            case 1:
                return waiting.size();
            case 2:
                return writesEver;
            case 3:
                return now.keysIn(now.rowInUse(STASH));
            case 4:
                return now.setTold();
            case 5:
                return now.seedTold();
            case 6:
                return timesAnew;
            case 7:
                return lastPath;
            case 8:
                return lastRecovery;
            default:
                throw new IllegalArgumentException("nothing such to count");
        }
    }

    private int allKeys() {
        int keys = 0;
        for (int page = 0; page < PAGES; page++) {
            keys += now.keysIn(now.rowInUse(page));
        }
        return keys;
    }

    private int seedInUse(Image image) {
        int which = image.seedTold();
        return which >= 0 && which < seeds.length ? seeds[which] : 0;
    }

    private static int homeBy(int seed, int key, boolean second) {
        int mixed = 0x9E3779B1 * key + seed;
        mixed ^= mixed >>> 15;
        int one = mixed * 0x85EBCA6B;
        int first = (one ^ (one >>> 13)) & (BUCKETS - 1);
        if (!second) {
            return first;
        }
        int two = mixed * 0xC2B2AE35;
        int other = (two ^ (two >>> 13)) & (BUCKETS - 1);
        return other == first ? (first + 1) % BUCKETS : other;
    }

    /** The row of the other HOME of a KEY that stands in a row. */
    private static int otherRow(int row, int seed, int key) {
        int start = row - row % PAGES;
        int first = start + homeBy(seed, key, false);
        return row == first ? start + homeBy(seed, key, true) : first;
    }

    private static int find(Image image, int seed, int key) {
        int place = image.placeIn(image.rowInUse(homeBy(seed, key, false)), key);
        if (place == NONE) {
            place = image.placeIn(image.rowInUse(homeBy(seed, key, true)), key);
        }
        if (place == NONE) {
            place = image.placeIn(image.rowInUse(STASH), key);
        }
        return place;
    }

    /** How a KEY can be put without MAKING ANEW, or FULL; the moves for it are told, not made. */
    private int choose(Image image, int seed, int key, int value) {
        int there = find(image, seed, key);
        if (there != NONE) {
            moves.tellOne(there, key, value);
            return THERE;
        }
        int first = image.rowInUse(homeBy(seed, key, false));
        int second = image.rowInUse(homeBy(seed, key, true));
        int empty = image.leastEmpty(first);
        if (empty == NONE) {
            empty = image.leastEmpty(second);
        }
        if (empty != NONE) {
            moves.tellOne(empty, key, value);
            return AT_HOME;
        }
        if (layPath(image, seed, first, key, value) || layPath(image, seed, second, key, value)) {
            return BY_PATH;
        }
        empty = image.leastEmpty(image.rowInUse(STASH));
        if (empty != NONE) {
            moves.tellOne(empty, key, value);
            return IN_STASH;
        }
        return FULL;
    }

    /** Tells the moves of a PATH from a BUCKET's row, and whether it has an end. */
    private boolean layPath(Image image, int seed, int from, int key, int value) {
        int row = from;
        int movedKey = key;
        int movedValue = value;
        moves.tellNothing();
        for (int step = 0; step < PATH_STEPS; step++) {
            int place = nextOnPath(row, step % SLOTS);
            if (place == NONE) {
                return false;
            }
            moves.add(place, movedKey, movedValue);
            movedKey = image.keyAt(place);
            movedValue = image.valueAt(place);
            row = otherRow(row, seed, movedKey);
            int end = image.leastEmpty(row);
            if (end != NONE) {
                moves.add(end, movedKey, movedValue);
                return true;
            }
        }
        return false;
    }

    private int nextOnPath(int row, int from) {
        for (int i = 0; i < SLOTS; i++) {
            int place = placeOf(row, (from + i) % SLOTS);
            if (!moves.tellOf(place)) {
                return place;
            }
        }
        return NONE;
    }

    /** The JOURNAL is written before any SLOT is, so that a crash on the way can be mended. */
    private void followPath() {
        now.tellJournal(moves);
        write(JOURNAL);
        makeMoves();
        now.emptyJournal();
        write(JOURNAL);
        lastPath = moves.size();
    }

    /** From the end back: no KEY is overwritten before it stands in its next SLOT. */
    private void makeMoves() {
        for (int i = moves.size() - 1; i >= 0; i--) {
            int place = moves.placeAt(i);
            now.fill(place, moves.keyAt(i), moves.valueAt(i));
            write(rowOf(place));
        }
    }

    /** Tried on an image of its own, since a SEED that fails must leave nothing changed. */
    private boolean fillTrial(int which, int key, int value) {
        trial.emptyAll();
        trial.tellRoot(1 - now.setTold(), which);
        int seed = seedInUse(trial);
        int start = placeOf(now.rowInUse(0), 0);
        for (int i = 0; i < PAGES * SLOTS; i++) {
            int place = start + i;
            if (now.holds(place)) {
                if (choose(trial, seed, now.keyAt(place), now.valueAt(place)) == FULL) {
                    return false;
                }
                trial.fillAll(moves);
            }
        }
        if (choose(trial, seed, key, value) == FULL) {
            return false;
        }
        trial.fillAll(moves);
        return true;
    }

    /** The ROOT comes last: until it is done, THE DISK still tells the old SET, which is whole. */
    private void takeTrial() {
        for (int page = 0; page < PAGES; page++) {
            int row = trial.rowInUse(page);
            now.takeRow(trial, row);
            write(row);
        }
        now.takeRow(trial, ROOT);
        write(ROOT);
        timesAnew++;
    }

    private void write(int row) {
        if (waiting.size() >= MOST_WAITING) {
            waiting.doFirst(MOST_WAITING, disk);
        }
        waiting.add(now, row);
        writesEver++;
    }

    private void recover() {
        moves.takeJournal(disk);
        disk.fillAll(moves);
        disk.emptyJournal();
        lastRecovery = moves.size();
        for (int row = 0; row < ROWS; row++) {
            now.takeRow(disk, row);
        }
    }

    /** A place is a SLOT of a PAGE's row, as one number. */
    private static int placeOf(int row, int slot) {
        return row * SLOTS + slot;
    }

    private static int rowOf(int place) {
        return place / SLOTS;
    }

    private static int columnOf(int place) {
        return place % SLOTS * ENTRY;
    }

    private static int cellAt(int[] cells, int row, int column) {
        int index = row * WIDTH + column;
        return index >= 0 && index < cells.length ? cells[index] : 0;
    }

    private static void tellCell(int[] cells, int row, int column, int number) {
        int index = row * WIDTH + column;
        if (index >= 0 && index < cells.length) {
            cells[index] = number;
        }
    }

    private static void copyRow(int[] from, int fromRow, int[] to, int toRow) {
        int source = fromRow * WIDTH;
        int target = toRow * WIDTH;
        if (source >= 0 && source <= from.length - WIDTH && target >= 0 && target <= to.length - WIDTH) {
            System.arraycopy(from, source, to, target, WIDTH);
        }
    }

    /** All that is written: both SETS, the ROOT and the JOURNAL, as there is or as THE DISK has it. */
    private static final class Image {
        final int[] cells;

        Image() {
            cells = new int[ROWS * WIDTH];
        }

        int setTold() {
            return cellAt(cells, ROOT, 0);
        }

        int seedTold() {
            return cellAt(cells, ROOT, 1);
        }

        void tellRoot(int set, int which) {
            tellCell(cells, ROOT, 0, set);
            tellCell(cells, ROOT, 1, which);
        }

        void tellJournal(Moves path) {
            copyRow(path.cells, 0, cells, JOURNAL);
        }

        void emptyJournal() {
            tellCell(cells, JOURNAL, 0, 0);
        }

        int rowInUse(int page) {
            return setTold() * PAGES + page;
        }

        boolean holds(int place) {
            return cellAt(cells, rowOf(place), columnOf(place)) != 0;
        }

        int keyAt(int place) {
            return cellAt(cells, rowOf(place), columnOf(place) + 1);
        }

        int valueAt(int place) {
            return cellAt(cells, rowOf(place), columnOf(place) + 2);
        }

        void fill(int place, int key, int value) {
            int row = rowOf(place);
            int column = columnOf(place);
            tellCell(cells, row, column, 1);
            tellCell(cells, row, column + 1, key);
            tellCell(cells, row, column + 2, value);
        }

        void fillAll(Moves told) {
            for (int i = 0; i < MOST_MOVES && i < told.size(); i++) {
                fill(told.placeAt(i), told.keyAt(i), told.valueAt(i));
            }
        }

        void empty(int place) {
            tellCell(cells, rowOf(place), columnOf(place), 0);
        }

        void emptyAll() {
            for (int i = 0; i < cells.length; i++) {
                cells[i] = 0;
            }
        }

        int leastEmpty(int row) {
            for (int slot = 0; slot < SLOTS; slot++) {
                if (cellAt(cells, row, slot * ENTRY) == 0) {
                    return placeOf(row, slot);
                }
            }
            return NONE;
        }

        int placeIn(int row, int key) {
            for (int slot = 0; slot < SLOTS; slot++) {
                boolean held = cellAt(cells, row, slot * ENTRY) != 0;
                if (held && cellAt(cells, row, slot * ENTRY + 1) == key) {
                    return placeOf(row, slot);
                }
            }
            return NONE;
        }

        int keysIn(int row) {
            int keys = 0;
            for (int slot = 0; slot < SLOTS; slot++) {
                if (cellAt(cells, row, slot * ENTRY) != 0) {
                    keys++;
                }
            }
            return keys;
        }

        void takeRow(Image other, int row) {
            copyRow(other.cells, row, cells, row);
        }
    }

    /** SLOTS with what each is to have, in a row as the JOURNAL's. */
    private static final class Moves {
        final int[] cells;

        Moves() {
            cells = new int[WIDTH];
        }

        int size() {
            return cellAt(cells, 0, 0);
        }

        int placeAt(int move) {
            return cellAt(cells, 0, 1 + move * ENTRY);
        }

        int keyAt(int move) {
            return cellAt(cells, 0, 2 + move * ENTRY);
        }

        int valueAt(int move) {
            return cellAt(cells, 0, 3 + move * ENTRY);
        }

        boolean tellOf(int place) {
            int many = cellAt(cells, 0, 0);
            for (int i = 0; i < MOST_MOVES && i < many; i++) {
                if (cellAt(cells, 0, 1 + i * ENTRY) == place) {
                    return true;
                }
            }
            return false;
        }

        void tellNothing() {
            tellCell(cells, 0, 0, 0);
        }

        void tellOne(int place, int key, int value) {
            tellNothing();
            add(place, key, value);
        }

        void add(int place, int key, int value) {
            int move = size();
            if (move < MOST_MOVES) {
                tellCell(cells, 0, 1 + move * ENTRY, place);
                tellCell(cells, 0, 2 + move * ENTRY, key);
                tellCell(cells, 0, 3 + move * ENTRY, value);
                tellCell(cells, 0, 0, move + 1);
            }
        }

        void takeJournal(Image image) {
            copyRow(image.cells, JOURNAL, cells, 0);
        }
    }

    /** The WRITES that wait, each a copy of its row as it was then. */
    private static final class Waiting {
        final int[] rows;
        final int[] cells;
        int waits;

        Waiting() {
            rows = new int[MOST_WAITING];
            cells = new int[MOST_WAITING * WIDTH];
        }

        int size() {
            return waits;
        }

        void add(Image image, int row) {
            if (waits >= 0 && waits < rows.length) {
                rows[waits] = row;
                copyRow(image.cells, row, cells, waits);
                waits++;
            }
        }

        /** The first so many reach the image; none waits any more. */
        void doFirst(int many, Image image) {
            for (int i = 0; i < many && i < rows.length; i++) {
                copyRow(cells, i, image.cells, rows[i]);
            }
            waits = 0;
        }
    }
}

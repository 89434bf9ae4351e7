/** Keys for the tests that have certain homes. The homes are reckoned here in longs, apart from the class. */
final class Keys {
    private static final long INT = 0xFFFFFFFFL;
    private static final int MOST_TRIED = 100_000_000;

    private Keys() {
    }

    static int home(int key, int seed, boolean second) {
        long x = (0x9E3779B1L * (key & INT) + (seed & INT)) & INT;
        x = x ^ (x >> 15);
        int first = bucket(x, 0x85EBCA6BL);
        int other = bucket(x, 0xC2B2AE35L);
        if (!second) {
            return first;
        }
        return first != other ? other : first == 7 ? 0 : first + 1;
    }

    private static int bucket(long x, long factor) {
        // the product's low 32 bits alone count, and a long that goes round still has them
        long y = (x * factor) & INT;
        return (int) ((y ^ (y >> 13)) % 8);
    }

    static boolean hasHomes(int key, int seed, int first, int second) {
        return home(key, seed, false) == first && home(key, seed, true) == second;
    }

    /** The first so many keys, 0 and up, with these two homes in this order. */
    static int[] withHomes(int many, int seed, int first, int second) {
        int[] keys = new int[many];
        int found = 0;
        for (int key = 0; found < many; key++) {
            if (hasHomes(key, seed, first, second)) {
                keys[found++] = key;
            }
        }
        return keys;
    }

    /** The first so many keys, 0 and up, that have no homes but buckets 2 and 6 by any of the seeds. */
    static int[] crowded(int many, int... seeds) {
        int[] keys = new int[many];
        int found = 0;
        for (int key = 0; found < many; key++) {
            if (key == MOST_TRIED) {
                throw new IllegalStateException("too few keys crowd by these seeds");
            }
            if (isCrowded(key, seeds)) {
                keys[found++] = key;
            }
        }
        return keys;
    }

    /** A key that crowds with others by one seed, and has these homes by another one. */
    static int crowdedThenAt(int seed, int otherSeed, int first, int second) {
        int key = 0;
        while (!isCrowded(key, seed) || !hasHomes(key, otherSeed, first, second)) {
            key++;
        }
        return key;
    }

    static boolean isCrowded(int key, int... seeds) {
        for (int seed : seeds) {
            if (!hasHomes(key, seed, 2, 6) && !hasHomes(key, seed, 6, 2)) {
                return false;
            }
        }
        return true;
    }

    /** Twelve keys that fill two buckets and the stash, each of them bound to the same two buckets. */
    static CuckooPages stuffed(CuckooPages x, int[] keys) {
        for (int i = 0; i < 12; i++) {
            Check.due("put of key " + i + " of those with the same homes", x.put(keys[i], 100 + i), i < 8 ? 1 : 3);
        }
        return x;
    }

    static void removeAll(CuckooPages x, int[] keys) {
        for (int key : keys) {
            Check.due("remove", x.remove(key), true);
        }
    }
}

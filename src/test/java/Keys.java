/** Keys for the tests that have certain homes. The homes are reckoned here in longs, apart from the class. */
final class Keys {
    private static final long INT = 0xFFFFFFFFL;

    private Keys() {
    }

    static int home(int key, int seed, boolean second) {
        long x = (0x9E3779B1L * (key & INT) + (seed & INT)) & INT;
        x = x ^ (x >> 15);
        int first = bucket(x, 0x85EBCA6BL);
        int other = bucket(x, 0xC2B2AE35L);
        if (!second) {
            return first;
        }
        return first != other ? other : first == 7 ? 0 : first + 1;
    }

    private static int bucket(long x, long factor) {
        // the product's low 32 bits alone count, and a long that goes round still has them
        long y = (x * factor) & INT;
        return (int) ((y ^ (y >> 13)) % 8);
    }

    /** The first so many keys, 0 and up, with these two homes in this order. */
    static int[] withHomes(int many, int seed, int first, int second) {
        int[] keys = new int[many];
        int found = 0;
        for (int key = 0; found < many; key++) {
            if (home(key, seed, false) == first && home(key, seed, true) == second) {
                keys[found++] = key;
            }
        }
        return keys;
    }

    /** Twelve keys that fill two buckets and the stash, each of them bound to the same two buckets. */
    static CuckooPages stuffed(CuckooPages x, int[] keys) {
        for (int i = 0; i < 12; i++) {
            Check.due("put of key " + i + " of those with the same homes", x.put(keys[i], 100 + i), i < 8 ? 1 : 3);
        }
        return x;
    }
}

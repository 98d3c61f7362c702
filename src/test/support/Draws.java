/** The document's HASH and CASES by themselves, in longs that are cut to 32 bits. */
final class Draws {
    private Draws() {
    }

    static int hash(int s, int t) {
        long mask = 0xFFFFFFFFL;
        long x = (s + t * 0x9E3779B9L) & mask;
        x = ((x ^ (x >> 16)) * 0x85EBCA6BL) & mask;
        x = ((x ^ (x >> 13)) * 0xC2B2AE35L) & mask;
        return (int) (x ^ (x >> 16));
    }

    private static int size(int c) {
        return 1 + c % 12;
    }

    private static int modulo(int h, int by) {
        long rest = (long) h % by;
        return (int) (rest < 0 ? rest + by : rest);
    }

    static int whole(int seed, int c, int i) {
        return modulo(hash(seed, 16 * c + i), 2 * size(c) + 1) - size(c);
    }

    static int[] row(int seed, int c, int i) {
        int h = hash(seed, 16 * c + i);
        int[] row = new int[modulo(h, size(c) / 2 + 1)];
        for (int k = 0; k < row.length; k++) {
            row[k] = modulo(hash(h, k + 1), 2 * size(c) + 1) - size(c);
        }
        return row;
    }
}

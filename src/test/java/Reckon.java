import java.math.BigInteger;

/** The document's numbers, reckoned as it writes them down and apart from the class under test. */
final class Reckon {
    static final int P = 2147483647;

    private Reckon() {
    }

    static long fold(long... row) {
        long h = -7046029254386353131L;
        for (long v : row) {
            h = (h ^ v) * -4417276706812531889L;
            h = h ^ (h >>> 29);
        }
        h = h * 1609587929392839161L;
        return h ^ (h >>> 32);
    }

    /** The FOLD of some longs and, behind them, of bytes one by one. */
    static long foldBytes(int[] bytes, long... before) {
        long[] row = new long[before.length + bytes.length];
        System.arraycopy(before, 0, row, 0, before.length);
        for (int i = 0; i < bytes.length; i++) {
            row[before.length + i] = bytes[i];
        }
        return fold(row);
    }

    static int power(int base, int exponent) {
        return BigInteger.valueOf(base).modPow(BigInteger.valueOf(exponent), BigInteger.valueOf(P)).intValue();
    }

    static int drawn(int seed, int side, int count) {
        return (int) fold(seed, side, count);
    }

    static int exponent(int drawn) {
        return 2 + (drawn >>> 1) % (P - 3);
    }

    static int[] word(int v) {
        return new int[] {v >>> 24, v >>> 16 & 255, v >>> 8 & 255, v & 255};
    }

    static int[] join(int[]... parts) {
        int length = 0;
        for (int[] part : parts) {
            length += part.length;
        }
        int[] all = new int[length];
        int at = 0;
        for (int[] part : parts) {
            System.arraycopy(part, 0, all, at, part.length);
            at += part.length;
        }
        return all;
    }

    static int[] bytes(int... values) {
        return values;
    }

    /** The bytes of a whole SEALED record, with its type and length. */
    static int[] sealed(long key, int n, int inner, int... content) {
        int[] covered = join(content, bytes(inner));
        for (int i = 0; i < covered.length; i++) {
            covered[i] ^= (int) (fold(key, n, i) & 255);
        }
        int tag = (int) foldBytes(covered, key, n, 100);
        return join(bytes(23, covered.length + 4), covered, word(tag));
    }

    static int[] clientHello(int random, int share, int secretNumber, long secret) {
        int[] begin = join(bytes(1), word(random), word(share), bytes(secretNumber));
        return join(begin, word((int) foldBytes(begin, fold(secret, 2, 0))));
    }

    static int[] serverHello(int random, int share) {
        return join(bytes(2), word(random), word(share));
    }
}

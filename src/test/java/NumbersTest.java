import java.math.BigInteger;
import java.util.Random;

/** Promises 16 and 17: fold and share. */
public final class NumbersTest {
    private static final BigInteger P = BigInteger.valueOf(2147483647L);

    public static void main(String[] args) {
        Due due = new Due("NumbersTest");
        Counted x = new Counted(1, 2, 3);
        due.is("fold(1, 2, 3)", x.fold(1, 2, 3), 4995218822292233963L);
        Random random = new Random(16);
        long[] edges = {0, 1, -1, Long.MIN_VALUE, Long.MAX_VALUE, 255, 1L << 32};
        for (long a : edges) {
            for (long b : edges) {
                long c = random.nextLong();
                due.is("fold(" + a + ", " + b + ", " + c + ")", x.fold(a, b, c), Reckon.fold(a, b, c));
            }
        }
        due.is("share(0)", x.share(0), 1);
        due.is("share(1)", x.share(1), 7);
        due.is("share(11)", x.share(11), 1977326743);
        due.is("share(12)", x.share(12), 1977326743L * 7 % 2147483647L);
        due.is("share(P - 1)", x.share(2147483646), 1);
        due.is("share((P - 1) / 2)", x.share(1073741823), 2147483646);
        due.is("share(P)", x.share(2147483647), SealedStore.NONE);
        due.is("share(-1)", x.share(-1), SealedStore.NONE);
        due.is("share(MIN)", x.share(Integer.MIN_VALUE), SealedStore.NONE);
        for (int i = 0; i < 200; i++) {
            int e = random.nextInt(2147483647);
            due.is("share(" + e + ")", x.share(e), BigInteger.valueOf(7).modPow(BigInteger.valueOf(e), P).intValue());
        }
        due.end();
    }
}

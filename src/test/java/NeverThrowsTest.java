import java.util.Random;

/**
 * Rule 7 of LANGUAGE.md: no call throws, for any arguments in any state, and so not behind the 512th
 * call either, where the answers are free and so are not looked at.
 */
public final class NeverThrowsTest {
    private static final int OBJECTS = 60;
    private static final int CALLS = 20000;
    private static final int[] ODD = {Integer.MIN_VALUE, -65536, -256, -5, -1, 0, 1, 2, 3, 4, 5, 9, 10, 11, 12, 13, 15, 16, 17, 20, 21, 50,
        51, 59, 60, 61, 255, 256, 65535, 65536, 2147483646, Integer.MAX_VALUE};

    private final Random random;
    private final SealedStore x;
    private final int oddity;

    private NeverThrowsTest(int run) {
        random = new Random(run);
        oddity = run % 3;
        x = new SealedStore(odd(), odd(), odd());
    }

    public static void main(String[] args) {
        Due due = new Due("NeverThrowsTest");
        for (int run = 0; run < OBJECTS; run++) {
            due.is("calls of run " + run + " that threw", new NeverThrowsTest(run).thrown(), 0);
        }
        due.end();
    }

    private int thrown() {
        int thrown = 0;
        for (int i = 0; i < CALLS; i++) {
            try {
                call(random.nextInt(40));
            } catch (RuntimeException e) {
                thrown++;
                e.printStackTrace(System.out);
            }
        }
        return thrown;
    }

    /** Odd in one run of three mostly, in one now and then, in one never. */
    private int some(int below) {
        return random.nextInt(20) < oddity * 8 ? odd() : random.nextInt(below);
    }

    private int odd() {
        return random.nextInt(8) == 0 ? random.nextInt() : ODD[random.nextInt(ODD.length)];
    }

    private void call(int which) {
        switch (which) {
            case 0 -> x.command(some(4), some(16), some(65536), some(65536));
            case 1 -> x.connect(random.nextBoolean());
            case 2 -> x.close(random.nextInt(20) == 0 ? some(2) : 2);
            case 3, 4, 5, 6 -> x.update(some(2));
            case 7, 8 -> x.tick(some(4));
            case 9 -> x.disturb(some(2), some(3));
            case 10 -> x.alter(random.nextInt(20) == 0 ? some(2) : 2, some(16), some(256));
            case 11 -> x.flying(some(2));
            case 12 -> x.datagram(some(2), some(12), some(21));
            case 13 -> x.side(some(2), some(11));
            case 14 -> x.answer(some(61), some(3));
            case 15 -> x.stored(some(16));
            case 16 -> x.about(some(5));
            case 17 -> x.fold(odd(), odd(), random.nextLong());
            case 18 -> x.share(odd());
            default -> x.deliver(some(2));
        }
    }
}

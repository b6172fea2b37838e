import java.math.BigInteger;

/** The sentences of NUMBERS and of promises 16 and 17, each by itself. */
public final class EdgeNumbersTest {
    private static final int MIN = Integer.MIN_VALUE;
    private static final int MAX = Integer.MAX_VALUE;
    private static final BigInteger P = BigInteger.valueOf(2147483647L);
    private static final BigInteger WRAP = BigInteger.ONE.shiftLeft(64);

    public static void main(String[] args) {
        Due due = new Due("EdgeNumbersTest");
        bytes(due);
        shares(due);
        shareRange(due);
        foldWraps(due);
        foldOrder(due);
        words(due);
        highestFirst(due);
        draws(due);
        seedsAndSides(due);
        exponents(due);
        exchange(due);
        due.end();
    }

    private static void bytes(Due due) {
        due.sentence("Bytes are 0 .. 255.");
        Play play = new Play(1, 2, 3);
        play.untilClientHello();
        for (int k = 0; k < 16; k++) {
            int before = play.x.datagram(0, 0, 5 + k);
            due.is("byte " + k + " is 0 .. 255", before >= 0 && before <= 255, true);
            play.x.alter(0, k, 255);
            due.is("byte " + k + " ^ 255", play.x.datagram(0, 0, 5 + k), 255 - before);
        }
    }

    private static void shares(Due due) {
        due.sentence("P is 2147483647; a SHARE of x is 7^x mod P.");
        Counted x = new Counted(1, 2, 3);
        due.is("share(2)", x.share(2), 49);
        due.is("share(11), the last below P", x.share(11), 1977326743);
        due.is("share(12), the first above P", x.share(12), 956385319);
        due.is("7 * share(P - 2) is 1", BigInteger.valueOf(x.share(2147483645)).multiply(BigInteger.valueOf(7)).mod(P).intValue(), 1);
        for (int bit = 0; bit < 31; bit++) {
            int exponent = 1 << bit;
            int due7 = BigInteger.valueOf(7).modPow(BigInteger.valueOf(exponent), P).intValue();
            due.is("share(2^" + bit + ")", x.share(exponent), due7);
            int below = BigInteger.valueOf(7).modPow(BigInteger.valueOf(exponent - 1), P).intValue();
            due.is("share(2^" + bit + " - 1)", x.share(exponent - 1), below);
        }
    }

    private static void shareRange(Due due) {
        due.sentence("The share 7^x mod P for x 0 .. P - 1; NONE otherwise.");
        Counted x = new Counted(1, 2, 3);
        due.is("share(0)", x.share(0), 1);
        due.is("share(-1)", x.share(-1), -1);
        due.is("share(MIN)", x.share(MIN), -1);
        due.is("share(P - 1)", x.share(MAX - 1), 1);
        due.is("share(P)", x.share(MAX), -1);
    }

    /** FOLD with numbers that cannot overflow, cut to 64 bits where Java's longs would wrap around. */
    private static long wideFold(long... row) {
        BigInteger h = unsigned(-7046029254386353131L);
        for (long v : row) {
            h = h.xor(unsigned(v)).multiply(unsigned(-4417276706812531889L)).mod(WRAP);
            h = h.xor(h.shiftRight(29));
        }
        h = h.multiply(unsigned(1609587929392839161L)).mod(WRAP);
        return h.xor(h.shiftRight(32)).longValue();
    }

    private static BigInteger unsigned(long v) {
        return BigInteger.valueOf(v).mod(WRAP);
    }

    private static void foldWraps(Due due) {
        due.sentence("h = (h ^ v) * -4417276706812531889, then h = h ^ (h >>> 29)");
        Counted x = new Counted(1, 2, 3);
        long[] edges = {0, 1, -1, 255, 256, -256, MIN, MAX, 1L << 32, Long.MIN_VALUE, Long.MAX_VALUE};
        for (long a : edges) {
            due.is("fold(" + a + ", 0, 0)", x.fold(a, 0, 0), wideFold(a, 0, 0));
            due.is("fold(0, " + a + ", 0)", x.fold(0, a, 0), wideFold(0, a, 0));
            due.is("fold(0, 0, " + a + ")", x.fold(0, 0, a), wideFold(0, 0, a));
            due.is("fold of three times " + a, x.fold(a, a, a), wideFold(a, a, a));
        }
    }

    private static void foldOrder(Due due) {
        due.sentence("The FOLD of three longs.");
        Counted x = new Counted(1, 2, 3);
        due.is("fold(1, 2, 3)", x.fold(1, 2, 3), 4995218822292233963L);
        int[][] orders = {{1, 3, 2}, {2, 1, 3}, {2, 3, 1}, {3, 1, 2}, {3, 2, 1}};
        for (int[] o : orders) {
            due.is("another order", x.fold(o[0], o[1], o[2]), wideFold(o[0], o[1], o[2]));
        }
    }

    private static void words(Due due) {
        due.sentence("The WORD of a long is its lower half, an int.");
        for (int seed : new int[] {1, 2, -3, 40000, MIN}) {
            Play play = new Play(seed, 0, 0);
            play.untilClientHello();
            long drawn = play.x.fold(seed, 0, 1);
            long word = 0;
            for (int k = 3; k < 7; k++) {
                word = word * 256 + play.x.datagram(0, 0, 5 + k);
            }
            due.is("R of seed " + seed, word, drawn & 0xFFFFFFFFL);
        }
    }

    private static void highestFirst(Due due) {
        due.sentence("Ints in bytes: the highest byte first.");
        // x is 2 with this seed, and the share 49.
        Play play = new Play(-1331964624, 2, 3);
        play.untilClientHello();
        int[] want = {0, 0, 0, 49};
        for (int i = 0; i < 4; i++) {
            due.is("byte " + i + " of the share 49", play.x.datagram(0, 0, 5 + 7 + i), want[i]);
        }
        play = Play.ready();
        play.x.command(3, 1, 0x0102, 0x0304);
        due.is("two bytes of each value", play.seen(0, 0), Play.told(1, 2, 2, 0,
            Reckon.sealed(Keys.ready().session[0], 0, 23, 1, 3, 1, 1, 2, 3, 4)));
    }

    private static void draws(Due due) {
        due.sentence("To DRAW: the count grows by 1, the number drawn is the word of FOLD(seed, side, count).");
        Play play = new Play(8, 9, 3);
        due.is("count 0 at first", play.x.side(0, 4) + play.x.side(1, 4), 0);
        for (int connection = 1; connection <= 3; connection++) {
            play.untilClientHello();
            due.is("client's count", play.x.side(0, 4), 2 * connection);
            due.is("server's count", play.x.side(1, 4), 2 * connection - 2);
            Keys keys = new Keys(8, 9, connection, 0, Reckon.fold(3, 0, 0));
            due.is("draws of the client", play.seen(0, 0), Play.told(connection, 2, 0, 0,
                Reckon.join(Reckon.bytes(22, 14), keys.clientHello)));
            play.x.deliver(0);
            due.is("server's count", play.x.side(1, 4), 2 * connection);
            due.is("draws of the server", play.seen(1, 1), Play.told(connection, 2, 0, 0,
                Reckon.join(Reckon.bytes(22, 9), keys.serverHello)));
            play.loseAll(1);
        }
    }

    private static void seedsAndSides(Due due) {
        due.sentence("There are two SIDES, 0 the client, 1 the server, each with a SEED and a COUNT of draws, 0 at first.");
        for (int seed : new int[] {0, 7, -1, MIN, MAX}) {
            Play play = new Play(seed, seed, 0);
            play.untilClientHello();
            due.is("R of the client, seed " + seed, wordOf(play, 0, 0, 3), (int) wideFold(seed, 0, 1));
            play.x.deliver(0);
            due.is("R of the server, seed " + seed, wordOf(play, 1, 1, 3), (int) wideFold(seed, 1, 1));
        }
    }

    /** Seeds, sought for this, whose second draw is at an end of its range: those above P - 4 begin again. */
    private static void exponents(Due due) {
        due.sentence("x being 2 + (a drawn word >>> 1) % (P - 3)");
        int[][] clients = {{-1331964624, 2}, {2085697026, 2147483645}, {-857387544, 2}, {395082482, 3}, {813246169, 5}};
        int[][] servers = {{1070440621, 2}, {-1335164910, 2147483645}, {-1758428198, 2}, {-1198880075, 3}, {448905744, 4}, {-404775692, 5}};
        for (int[] c : clients) {
            Play play = new Play(c[0], 2, 3);
            play.untilClientHello();
            due.is("share of " + c[1], wordOf(play, 0, 0, 7), Reckon.power(7, c[1]));
            play.settle();
            due.is("READY", play.x.side(0, 2) + play.x.side(1, 2), 2);
        }
        for (int[] s : servers) {
            Play play = new Play(1, s[0], 3);
            play.untilServerHello();
            due.is("share of " + s[1], wordOf(play, 1, 0, 7), Reckon.power(7, s[1]));
            play.settle();
            due.is("READY", play.x.side(0, 2) + play.x.side(1, 2), 2);
        }
    }

    private static int wordOf(Play play, int direction, int k, int at) {
        int word = 0;
        for (int i = 0; i < 4; i++) {
            word = word << 8 | play.x.datagram(direction, k, 5 + at + i);
        }
        return word;
    }

    private static void exchange(Due due) {
        due.sentence("E = DERIVE(secret, 1, share of x ^ y, that is share(x)^y mod P)");
        int[] clients = {-1331964624, 2085697026, 1};
        int[] servers = {1070440621, -1335164910, 2};
        for (int c : clients) {
            for (int s : servers) {
                Play play = new Play(c, s, 3);
                play.untilServerHello();
                due.is("FINISHED under the exchanged key", play.seen(1, 1), Play.told(1, 2, 1, 0,
                    Reckon.sealed(Keys.first(c, s, 3).handshake[1], 0, 22, Keys.first(c, s, 3).serverFinished)));
            }
        }
    }
}

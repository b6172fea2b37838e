/** An object under test with the moves that many tests make. */
final class Play {
    final SealedStore x;

    Play(int clientSeed, int serverSeed, int shared) {
        x = new SealedStore(clientSeed, serverSeed, shared);
    }

    /** An object whose client and server are READY on connection 1, with nothing on the way. */
    static Play ready() {
        Play play = new Play(1, 2, 3);
        play.x.connect(false);
        play.settle();
        return play;
    }

    /** Lets datagrams arrive, in turns, until none is on the way. */
    void settle() {
        boolean moves = true;
        for (int i = 0; i < 1000 && moves; i++) {
            int kind = x.deliver(0);
            moves = x.deliver(1) != SealedStore.NONE || kind != SealedStore.NONE;
        }
    }

    /** A whole handshake on a line where nothing else is on the way, and the ticket, in 12 calls. */
    void handshake() {
        int[] directions = {0, 1, 0, 1, 1, 1, 0, 0, 0, 1, 1, 0};
        for (int direction : directions) {
            x.deliver(direction);
        }
    }

    void deliverAll(int direction) {
        for (int i = x.flying(direction); i > 0; i--) {
            x.deliver(direction);
        }
    }

    void loseAll(int direction) {
        for (int i = x.flying(direction); i > 0; i--) {
            x.disturb(direction, 0);
        }
    }

    /** Goes on until the server waits for the client's hello, which is the one datagram on the way. */
    void untilClientHello() {
        x.connect(false);
        x.deliver(0);
        x.deliver(1);
    }

    /** The GOT of it is delivered: the server's hello and FINISHED are on the way. */
    void untilServerHello() {
        untilClientHello();
        x.deliver(0);
        x.deliver(1);
    }

    /** What datagram k of a direction has, as one text: connection, kind, number, bits, bytes. */
    String seen(int direction, int k) {
        StringBuilder text = new StringBuilder();
        for (int what = 0; what < 4; what++) {
            text.append(x.datagram(direction, k, what)).append(' ');
        }
        text.append(':');
        for (int i = 0; i < x.datagram(direction, k, 4); i++) {
            text.append(' ').append(x.datagram(direction, k, 5 + i));
        }
        return text.toString();
    }

    static String told(int connection, int kind, int number, int bits, int... bytes) {
        StringBuilder text = new StringBuilder();
        text.append(connection).append(' ').append(kind).append(' ').append(number).append(' ').append(bits).append(" :");
        for (int b : bytes) {
            text.append(' ').append(b);
        }
        return text.toString();
    }

    /** Makes the first bytes of the first datagram of a direction these. */
    void write(int direction, int... bytes) {
        for (int k = 0; k < bytes.length; k++) {
            int mask = x.datagram(direction, 0, 5 + k) ^ bytes[k];
            if (mask != 0 && !x.alter(direction, k, mask)) {
                throw new IllegalStateException("byte " + k + " could not be written");
            }
        }
    }
}

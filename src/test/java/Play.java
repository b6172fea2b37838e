/** An object under test with the moves that many tests make. */
final class Play {
    final Counted x;

    Play(int clientSeed, int serverSeed, int shared) {
        x = new Counted(clientSeed, serverSeed, shared);
    }

    /** An object whose client and server are READY on connection 1, with nothing on the way. */
    static Play ready() {
        Play play = new Play(1, 2, 3);
        play.x.connect(false);
        play.settle();
        return play;
    }

    /** Lets datagrams arrive, in turns, until none is on the way. */
    void settle() {
        boolean moves = true;
        for (int i = 0; i < 1000 && moves; i++) {
            int kind = x.deliver(0);
            moves = x.deliver(1) != SealedStore.NONE || kind != SealedStore.NONE;
        }
    }

    /** A whole handshake on a line where nothing else is on the way, and the ticket, in 12 calls. */
    void handshake() {
        int[] directions = {0, 1, 0, 1, 1, 1, 0, 0, 0, 1, 1, 0};
        for (int direction : directions) {
            x.deliver(direction);
        }
    }

    void deliverAll(int direction) {
        for (int i = x.flying(direction); i > 0; i--) {
            x.deliver(direction);
        }
    }

    void loseAll(int direction) {
        for (int i = x.flying(direction); i > 0; i--) {
            x.disturb(direction, 0);
        }
    }

    /** Goes on until the server waits for the client's hello, which is the one datagram on the way. */
    void untilClientHello() {
        x.connect(false);
        x.deliver(0);
        x.deliver(1);
    }

    /** The GOT of it is delivered: the server's hello and FINISHED are on the way. */
    void untilServerHello() {
        untilClientHello();
        x.deliver(0);
        x.deliver(1);
    }

    /** What datagram k of a direction has, as one text: connection, kind, number, bits, bytes. */
    String seen(int direction, int k) {
        StringBuilder text = new StringBuilder();
        for (int what = 0; what < 4; what++) {
            text.append(x.datagram(direction, k, what)).append(' ');
        }
        text.append(':');
        for (int i = 0; i < x.datagram(direction, k, 4); i++) {
            text.append(' ').append(x.datagram(direction, k, 5 + i));
        }
        return text.toString();
    }

    static String told(int connection, int kind, int number, int bits, int... bytes) {
        StringBuilder text = new StringBuilder();
        text.append(connection).append(' ').append(kind).append(' ').append(number).append(' ').append(bits).append(" :");
        for (int b : bytes) {
            text.append(' ').append(b);
        }
        return text.toString();
    }

    /** Makes the first bytes of the first datagram of a direction these. */
    void write(int direction, int... bytes) {
        for (int k = 0; k < bytes.length; k++) {
            int mask = x.datagram(direction, 0, 5 + k) ^ bytes[k];
            if (mask != 0 && !x.alter(direction, k, mask)) {
                throw new IllegalStateException("byte " + k + " could not be written");
            }
        }
    }

    /**
     * Both sides READY, and of one side segments of 16 bytes, alone on its way, for a forger to write
     * over: what waits behind four key updates is cut into them. The reader has forgeKey, number 0.
     */
    static Play withRoom(int side, int segments) {
        Play play = ready();
        for (int i = 0; i < 4 + 2 * segments; i++) {
            play.x.update(side);
        }
        play.deliverAll(side);
        play.deliverAll(1 - side);
        return play;
    }

    static long forgeKey(int side) {
        long key = Keys.ready().session[side];
        for (int i = 0; i < 4; i++) {
            key = Keys.next(key);
        }
        return key;
    }

    /**
     * Lets these bytes arrive in the place of those on the way; in what is left of the last datagram
     * stands the head of a record that never comes.
     */
    void forge(int direction, int... bytes) {
        for (int at = 0; at < bytes.length;) {
            int[] part = new int[x.datagram(direction, 0, 4)];
            for (int i = 0; i < part.length; i++, at++) {
                int behind = at - bytes.length;
                part[i] = behind < 0 ? bytes[at] : behind == 0 ? 23 : behind == 1 ? 40 : 0;
            }
            write(direction, part);
            x.deliver(direction);
        }
    }

    /** All that side tells of both, about, and the heads of what is on the way. */
    String state() {
        StringBuilder text = new StringBuilder();
        for (int side = 0; side < 2; side++) {
            for (int what = 0; what <= 10; what++) {
                text.append(x.side(side, what)).append(' ');
            }
            text.append("| ");
            int flying = x.flying(side);
            for (int k = 0; k < flying; k++) {
                text.append(x.datagram(side, k, 1)).append('-').append(x.datagram(side, k, 2)).append(' ');
            }
            text.append("| ");
        }
        for (int what = 0; what <= 4; what++) {
            text.append(x.about(what)).append(' ');
        }
        return text.toString();
    }

    /** How the side is: state, READY, CLOSED. */
    String is(int side) {
        return x.side(side, 1) + " " + x.side(side, 2) + " " + x.side(side, 3);
    }
}

/** The handshake: its bytes, and every code with which it fails. Promises 3, 7 and 12 stand on it. */
public final class HandshakeTest {
    private static final int SEED = 1;
    private static final int SERVER_SEED = 2;
    private static final int SHARED = 3;
    private static final Keys KEYS = Keys.first(SEED, SERVER_SEED, SHARED);
    private static final long SECRET = Reckon.fold(SHARED, 0, 0);

    public static void main(String[] args) {
        Due due = new Due("HandshakeTest");
        onTheWire(due);
        clientHello(due);
        serverHello(due);
        serverFinished(due);
        clientFinished(due);
        plainAlerts(due);
        badForm(due);
        ready(due);
        due.end();
    }

    private static void onTheWire(Due due) {
        int[][] seeds = {{1, 2, 3}, {-5, 1 << 30, -9}, {0, 0, 0}, {Integer.MAX_VALUE, Integer.MIN_VALUE, 8}};
        for (int[] s : seeds) {
            Keys keys = Keys.first(s[0], s[1], s[2]);
            Play play = new Play(s[0], s[1], s[2]);
            play.untilClientHello();
            due.is("CLIENT HELLO", play.seen(0, 0), Play.told(1, 2, 0, 0,
                Reckon.join(Reckon.bytes(22, 14), keys.clientHello)));
            play.x.deliver(0);
            due.is("SERVER HELLO", play.seen(1, 1), Play.told(1, 2, 0, 0,
                Reckon.join(Reckon.bytes(22, 9), keys.serverHello)));
            due.is("server's FINISHED", play.seen(1, 2), Play.told(1, 2, 1, 0,
                Reckon.sealed(keys.handshake[1], 0, 22, keys.serverFinished)));
            play.deliverAll(1);
            due.is("client's FINISHED", play.seen(0, 2), Play.told(1, 2, 1, 0,
                Reckon.sealed(keys.handshake[0], 0, 22, keys.clientFinished)));
            play.deliverAll(0);
            due.is("TICKET", play.seen(1, 1), Play.told(1, 2, 2, 0, Reckon.sealed(keys.session[1], 0, 22, 4, 1)));
            play.deliverAll(1);
            due.is("ticket read", play.x.about(3), 1);
        }
    }

    /** Asks how the server takes other bytes in the place of the client's hello. */
    private static void serverTakes(Due due, String what, int code, int... record) {
        Play play = new Play(SEED, SERVER_SEED, SHARED);
        play.untilClientHello();
        play.write(0, record);
        play.x.deliver(0);
        due.is(what, play.x.side(1, 3), code);
        due.is(what + ": draws", play.x.side(1, 4), code == -1 ? 2 : 0);
        if (code != -1) {
            due.is(what + ": alert", play.seen(1, 1), Play.told(1, 2, 0, 0, 21, 1, code));
            play.settle();
            due.is(what + ": client told", play.x.side(0, 3), code + 256);
        }
    }

    private static int[] hello(int share, int secretNumber, long secret) {
        return Reckon.join(Reckon.bytes(22, 14), Reckon.clientHello(77, share, secretNumber, secret));
    }

    private static void clientHello(Due due) {
        int[] fine = hello(7, 0, SECRET);
        serverTakes(due, "another fine hello", -1, fine);
        serverTakes(due, "type 23", 10, Reckon.bytes(23));
        serverTakes(due, "type 21, 14 bytes", 10, Reckon.bytes(21));
        serverTakes(due, "13 bytes", 10, Reckon.bytes(22, 13));
        serverTakes(due, "first byte 2", 10, Reckon.bytes(22, 14, 2));
        serverTakes(due, "secret 1", 115, hello(7, 1, SECRET));
        serverTakes(due, "secret 255", 115, hello(7, 255, SECRET));
        serverTakes(due, "share 1 and secret 1", 115, hello(1, 1, SECRET));
        serverTakes(due, "another secret's proof", 51, hello(7, 0, SECRET + 1));
        serverTakes(due, "share 1 and another's proof", 51, hello(1, 0, SECRET + 1));
        for (int share : new int[] {0, 1, -1, Integer.MIN_VALUE, Reckon.P - 1, Reckon.P}) {
            serverTakes(due, "share " + share, 47, hello(share, 0, SECRET));
        }
        serverTakes(due, "share 2", -1, hello(2, 0, SECRET));
        serverTakes(due, "share P - 2", -1, hello(Reckon.P - 2, 0, SECRET));
        for (int k = 2; k < 16; k++) {
            Play play = new Play(SEED, SERVER_SEED, SHARED);
            play.untilClientHello();
            play.x.alter(0, k, 64);
            play.x.deliver(0);
            int code = k == 2 ? 10 : k == 11 ? 115 : 51;
            due.is("byte " + k + " altered", play.x.side(1, 3), code);
        }
    }

    /** Asks how the client takes other bytes in the place of the server's hello. */
    private static void clientTakes(Due due, String what, int code, int... record) {
        Play play = new Play(SEED, SERVER_SEED, SHARED);
        play.untilServerHello();
        play.write(1, record);
        play.x.deliver(1);
        due.is(what, play.x.side(0, 3), code);
        if (code == -1) {
            play.x.deliver(1);
            due.is(what + ": other keys", play.x.side(0, 3), 20);
            due.is(what + ": sealed alert", play.x.datagram(0, 2, 5), 23);
            return;
        }
        due.is(what + ": alert", play.seen(0, 1), Play.told(1, 2, 1, 0, 21, 1, code));
        play.settle();
        due.is(what + ": the server has a key for that way", play.x.side(1, 3), 10);
    }

    private static void serverHello(Due due) {
        clientTakes(due, "type 23", 10, Reckon.bytes(23));
        clientTakes(due, "type 21", 10, Reckon.bytes(21));
        clientTakes(due, "8 bytes", 10, Reckon.bytes(22, 8));
        clientTakes(due, "first byte 1", 10, Reckon.bytes(22, 9, 1));
        for (int share : new int[] {0, 1, -1, Integer.MIN_VALUE, Reckon.P - 1, Reckon.P}) {
            clientTakes(due, "share " + share, 47, Reckon.join(Reckon.bytes(22, 9), Reckon.serverHello(5, share)));
        }
        clientTakes(due, "share 2", -1, Reckon.join(Reckon.bytes(22, 9), Reckon.serverHello(5, 2)));
        clientTakes(due, "share P - 2", -1, Reckon.join(Reckon.bytes(22, 9), Reckon.serverHello(5, Reckon.P - 2)));
        clientTakes(due, "the random word is in the transcript", -1, Reckon.bytes(22, 9, 2, 0, 0, 0, 0));
    }

    private static void finishedTaken(Due due, String what, int side, int code, int... record) {
        Play play = new Play(SEED, SERVER_SEED, SHARED);
        play.untilServerHello();
        play.x.deliver(1);
        if (side == 1) {
            play.x.deliver(1);
            play.x.disturb(0, 0);
            play.x.disturb(0, 0);
        }
        play.write(1 - side, record);
        play.x.deliver(1 - side);
        due.is(what, play.x.side(side, 3), code);
        due.is(what + ": READY", play.x.side(side, 2), 0);
        if (code >= 0 && code < 256) {
            long key = side == 1 ? KEYS.session[1] : KEYS.handshake[0];
            int place = side == 1 ? 1 : 2;
            due.is(what + ": alert", play.seen(side, place), Play.told(1, 2, side == 1 ? 2 : 1, 0,
                Reckon.sealed(key, 0, 21, code)));
            due.is(what + ": tickets", play.x.about(2), 0);
        }
    }

    private static void serverFinished(Due due) {
        long key = KEYS.handshake[1];
        int[] right = KEYS.serverFinished;
        finishedTaken(due, "type 22", 0, 10, 22);
        finishedTaken(due, "type 21", 0, 10, 21);
        finishedTaken(due, "plain ALERT on a way with a key", 0, 10, 21, 1, 9);
        finishedTaken(due, "altered", 0, 20, 23, 10, 0, 0, 0);
        finishedTaken(due, "4 bytes", 0, 20, 23, 4);
        finishedTaken(due, "1 byte", 0, 20, 23, 1);
        finishedTaken(due, "another key", 0, 20, Reckon.sealed(KEYS.session[1], 0, 22, right));
        finishedTaken(due, "another number", 0, 20, Reckon.sealed(key, 1, 22, right));
        finishedTaken(due, "inner type 23", 0, 10, Reckon.sealed(key, 0, 23, right));
        finishedTaken(due, "inner type 0", 0, 10, Reckon.sealed(key, 0, 0, right));
        finishedTaken(due, "no content", 0, 10, Reckon.sealed(key, 0, 22));
        finishedTaken(due, "4 bytes of content", 0, 10, Reckon.sealed(key, 0, 22, 20, 1, 2, 3));
        finishedTaken(due, "first byte 21", 0, 10, Reckon.sealed(key, 0, 22, 21, 1, 2, 3, 4));
        finishedTaken(due, "another word", 0, 51, Reckon.sealed(key, 0, 22, 20, 1, 2, 3, 4));
        finishedTaken(due, "a key update", 0, 10, Reckon.sealed(key, 0, 22, 24));
        finishedTaken(due, "sealed ALERT", 0, 256 + 200, Reckon.sealed(key, 0, 21, 200));
        finishedTaken(due, "sealed ALERT of 2 bytes", 0, 10, Reckon.sealed(key, 0, 21, 200, 1));
    }

    private static void clientFinished(Due due) {
        long key = KEYS.handshake[0];
        int[] right = KEYS.clientFinished;
        finishedTaken(due, "type 22", 1, 10, 22);
        finishedTaken(due, "plain ALERT on a way with a key", 1, 10, 21, 1, 0);
        finishedTaken(due, "altered", 1, 20, 23, 10, 0, 0, 0);
        finishedTaken(due, "the session's key", 1, 20, Reckon.sealed(KEYS.session[0], 0, 22, right));
        finishedTaken(due, "inner type 23", 1, 10, Reckon.sealed(key, 0, 23, right));
        finishedTaken(due, "first byte 4", 1, 10, Reckon.sealed(key, 0, 22, 4, 1, 2, 3, 4));
        finishedTaken(due, "another word", 1, 51, Reckon.sealed(key, 0, 22, 20, 1, 2, 3, 4));
        finishedTaken(due, "the server's word", 1, 51, Reckon.sealed(key, 0, 22, KEYS.serverFinished));
        finishedTaken(due, "sealed ALERT", 1, 256, Reckon.sealed(key, 0, 21, 0));
    }

    private static void plainAlerts(Due due) {
        for (int b : new int[] {0, 10, 255}) {
            Play play = new Play(SEED, SERVER_SEED, SHARED);
            play.untilClientHello();
            play.write(0, 21, 1, b);
            play.x.deliver(0);
            due.is("server told", play.x.side(1, 3), b + 256);
            due.is("sends no alert", play.x.flying(1), 1);
            play = new Play(SEED, SERVER_SEED, SHARED);
            play.untilServerHello();
            play.write(1, 21, 1, b);
            play.x.deliver(1);
            due.is("client told", play.x.side(0, 3), b + 256);
            play.x.deliver(1);
            due.is("nothing more is read", play.x.side(0, 3), b + 256);
            due.is("sequence", play.x.side(0, 10), 0);
            due.is("GOT alone", play.x.flying(0), 2);
        }
    }

    private static void badForm(Due due) {
        int[][] heads = {{20, 5}, {24, 5}, {0, 5}, {255, 5}, {22, 0}, {22, 41}, {22, 255}, {23, 0}, {21, 41}};
        for (int[] head : heads) {
            serverTakes(due, "head " + head[0] + ", " + head[1], 50, head);
        }
        Play play = new Play(SEED, SERVER_SEED, SHARED);
        play.untilClientHello();
        play.write(0, 22, 40);
        play.x.deliver(0);
        due.is("a record of 40 bytes is waited for", play.x.side(1, 3), -1);
        due.is("segments", play.x.side(1, 5), 0);
        play = Play.ready();
        play.x.update(0);
        play.x.alter(0, 0, 128);
        play.x.deliver(0);
        due.is("READY: bad type", play.x.side(1, 3), 50);
        due.is("sealed alert", play.seen(1, 1), Play.told(1, 2, 3, 0, Reckon.sealed(KEYS.session[1], 1, 21, 50)));
        due.is("sequence of the other way", play.x.side(1, 10), 0);
    }

    /** Asks how a side that is READY takes other bytes in the place of the other side's key update. */
    private static void readyTaken(Due due, String what, int side, int code, int... record) {
        Play play = Play.ready();
        play.x.update(1 - side);
        play.write(1 - side, record);
        play.x.deliver(1 - side);
        due.is(what + " at " + side, play.x.side(side, 3), code);
        due.is(what + ": READY still", play.x.side(side, 2), 1);
    }

    private static void ready(Due due) {
        for (int side = 0; side < 2; side++) {
            long key = KEYS.session[1 - side];
            // the server's way has had the ticket
            int n = side == 0 ? 1 : 0;
            readyTaken(due, "type 22", side, 10, 22);
            readyTaken(due, "type 21", side, 10, 21, 1);
            readyTaken(due, "altered", side, 20, 23, 6, 0, 0, 0);
            readyTaken(due, "4 bytes", side, 20, 23, 4);
            readyTaken(due, "a later number", side, 20, Reckon.sealed(key, n + 1, 22, 24));
            readyTaken(due, "key update", side, -1, Reckon.sealed(key, n, 22, 24));
            readyTaken(due, "byte 25", side, 10, Reckon.sealed(key, n, 22, 25));
            readyTaken(due, "byte 20", side, 10, Reckon.sealed(key, n, 22, 20));
            readyTaken(due, "no byte", side, 10, Reckon.sealed(key, n, 22));
            readyTaken(due, "inner 20", side, 10, Reckon.sealed(key, n, 20, 24));
            readyTaken(due, "inner 24", side, 10, Reckon.sealed(key, n, 24, 24));
            readyTaken(due, "empty alert", side, 10, Reckon.sealed(key, n, 21));
            readyTaken(due, "alert", side, 256 + 77, Reckon.sealed(key, n, 21, 77));
            readyTaken(due, "short data", side, side == 1 ? 50 : 10, Reckon.sealed(key, n, 23, 1));
        }
    }
}

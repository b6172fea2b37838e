/** What one handshake with secret 0 on new draws has, reckoned from the seeds by the document's words. */
final class Keys {
    final int[] clientHello;
    final int[] serverHello;
    final int[] serverFinished;
    final int[] clientFinished;
    final long[] handshake = new long[2];
    final long[] session = new long[2];
    final long master;

    /** The handshake of the given number (1, 2, ..) on both sides, with a secret. */
    Keys(int clientSeed, int serverSeed, int handshakeNumber, int secretNumber, long secret) {
        int first = 2 * handshakeNumber - 1;
        int x = Reckon.exponent(Reckon.drawn(clientSeed, 0, first + 1));
        int y = Reckon.exponent(Reckon.drawn(serverSeed, 1, first + 1));
        clientHello = Reckon.clientHello(Reckon.drawn(clientSeed, 0, first), Reckon.power(7, x), secretNumber, secret);
        serverHello = Reckon.serverHello(Reckon.drawn(serverSeed, 1, first), Reckon.power(7, y));
        long hellos = Reckon.foldBytes(Reckon.join(clientHello, serverHello));
        long e = Reckon.fold(secret, 1, Reckon.power(Reckon.power(7, x), y));
        long h = Reckon.fold(e, 3, hellos);
        serverFinished = finished(h, 1, hellos);
        long all = Reckon.foldBytes(Reckon.join(clientHello, serverHello, serverFinished));
        clientFinished = finished(h, 0, all);
        master = Reckon.fold(h, 6, all);
        for (int side = 0; side < 2; side++) {
            handshake[side] = Reckon.fold(h, 4, side);
            session[side] = Reckon.fold(master, 7, side);
        }
    }

    static Keys first(int clientSeed, int serverSeed, int shared) {
        return new Keys(clientSeed, serverSeed, 1, 0, Reckon.fold(shared, 0, 0));
    }

    /** Those of Play.ready(). */
    static Keys ready() {
        return first(1, 2, 3);
    }

    long ticketSecret(int number) {
        return Reckon.fold(master, 9, number);
    }

    static long next(long key) {
        return Reckon.fold(key, 10, 0);
    }

    private static int[] finished(long h, int side, long transcript) {
        return Reckon.join(Reckon.bytes(20), Reckon.word((int) Reckon.fold(Reckon.fold(h, 5, side), transcript)));
    }
}

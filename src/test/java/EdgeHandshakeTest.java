/** The sentences of HANDSHAKE and of what is read when READY, each by itself. */
public final class EdgeHandshakeTest {
    private static final Keys KEYS = Keys.ready();
    private static final long SECRET = Reckon.fold(3, 0, 0);
    private static final int P = Reckon.P;
    private static final int[] BAD_SHARES = {0, 1, -1, Integer.MIN_VALUE, P - 1, P, P + 3};
    private static final int[] GOOD_SHARES = {2, 3, 1 << 30, P - 3, P - 2};

    public static void main(String[] args) {
        Due due = new Due("EdgeHandshakeTest");
        secretZero(due);
        clientHello(due);
        proof(due);
        helloType(due);
        helloLength(due);
        helloFirst(due);
        unknownSecret(due);
        unknownSecretLater(due);
        badProof(due);
        serversShares(due);
        orderOfCodes(due);
        serverHello(due);
        serversKeys(due);
        serversFinished(due);
        answerType(due);
        answerLength(due);
        answerFirst(due);
        clientsShares(due);
        finishedType(due);
        finishedOpening(due);
        finishedForm(due);
        finishedWord(due);
        serversWay(due);
        clientsFinished(due);
        clientsWay(due);
        serverReady(due);
        serverReadsFinished(due);
        longFinished(due);
        ticket(due);
        ticketNumbers(due);
        ticketSecret(due);
        ticketWhenRead(due);
        latestTicket(due);
        ticketAtClient(due);
        latestRead(due);
        ticketAtServer(due);
        updateByte(due);
        readyType(due);
        due.end();
    }

    private static int[] record(int... hello) {
        return Reckon.join(Reckon.bytes(22, hello.length), hello);
    }

    private static int[] hello(int share, int number, long secret) {
        return record(Reckon.clientHello(-77, share, number, secret));
    }

    /** How the server is CLOSED behind other bytes in the place of the client's hello. */
    private static int serversCode(int... bytes) {
        Play play = new Play(1, 2, 3);
        play.untilClientHello();
        play.write(0, bytes);
        play.x.deliver(0);
        return play.x.side(1, 3);
    }

    /** How the client is CLOSED behind other bytes in the place of the server's hello and FINISHED. */
    private static int clientsCode(int... bytes) {
        Play play = new Play(1, 2, 3);
        play.untilServerHello();
        play.forge(1, bytes);
        return play.x.side(0, 3);
    }

    /** The server's FINISHED is the one datagram on its way, and the client waits for it. */
    private static Play beforeServersFinished() {
        Play play = new Play(1, 2, 3);
        play.untilServerHello();
        play.x.deliver(1);
        play.loseAll(0);
        return play;
    }

    /** The client's FINISHED is the first datagram on its way, and the server waits for it. */
    private static Play beforeClientsFinished() {
        Play play = beforeServersFinished();
        play.x.deliver(1);
        play.x.disturb(0, 0);
        return play;
    }

    private static int finishedCode(int reader, int... bytes) {
        Play play = reader == 0 ? beforeServersFinished() : beforeClientsFinished();
        play.write(1 - reader, bytes);
        play.x.deliver(1 - reader);
        return play.x.side(reader, 3);
    }

    private static void secretZero(Due due) {
        due.sentence("The SECRET number 0 is DERIVE(the shared key, 0, 0)");
        for (int shared : new int[] {0, 1, -1, Integer.MIN_VALUE, Integer.MAX_VALUE}) {
            Play play = new Play(1, 2, shared);
            play.untilClientHello();
            due.is("hello of " + shared, play.seen(0, 0), Play.told(1, 2, 0, 0, record(Keys.first(1, 2, shared).clientHello)));
            play.x.deliver(0);
            due.is("the server has the same", play.x.side(1, 3), -1);
        }
    }

    private static void clientHello(Due due) {
        due.sentence("CLIENT HELLO: 1, a drawn word R (4 bytes), the share of x (4 bytes), .. the secret's number s (1 byte), the PROOF (4 bytes)");
        Play play = new Play(1, 2, 3);
        play.untilClientHello();
        int[] want = Reckon.join(Reckon.bytes(22, 14, 1), Reckon.word(Reckon.drawn(1, 0, 1)),
            Reckon.word(Reckon.power(7, Reckon.exponent(Reckon.drawn(1, 0, 2)))), Reckon.bytes(0));
        for (int i = 0; i < want.length; i++) {
            due.is("byte " + i, play.x.datagram(0, 0, 5 + i), want[i]);
        }
        due.is("with the PROOF 16 bytes", play.x.datagram(0, 0, 4), 16);
        due.sentence("Sent as HELLO when the connection is UP.");
        play = new Play(1, 2, 3);
        play.x.connect(false);
        play.x.deliver(0);
        due.is("not while it is OPENING", play.x.flying(0), 0);
        play.x.deliver(1);
        due.is("HELLO", play.x.datagram(0, 0, 5), 22);
    }

    private static void proof(Due due) {
        due.sentence("the PROOF (4 bytes): the word of FOLD(DERIVE(secret, 2, 0), the bytes before it)");
        Play play = new Play(1, 2, 3);
        play.untilClientHello();
        long[] row = new long[11];
        row[0] = play.x.fold(play.x.fold(3, 0, 0), 2, 0);
        for (int i = 0; i < 10; i++) {
            row[1 + i] = play.x.datagram(0, 0, 7 + i);
        }
        int[] want = Reckon.word((int) Reckon.fold(row));
        for (int i = 0; i < 4; i++) {
            due.is("byte " + i, play.x.datagram(0, 0, 17 + i), want[i]);
        }
    }

    private static void helloType(Due due) {
        due.sentence("The server, which waits for it, fails: type not 22 .. : 10");
        due.is("type 21", serversCode(21, 14), 10);
        due.is("type 23", serversCode(23, 14), 10);
        due.is("type 22", serversCode(22, 14), -1);
    }

    private static void helloLength(Due due) {
        due.sentence("or not these 14 bytes: 10");
        for (int length = 1; length <= 13; length++) {
            due.is(length + " bytes", serversCode(22, length), 10);
        }
        due.is("14 bytes", serversCode(22, 14), -1);
        Play play = new Play(1, 2, 3);
        play.untilClientHello();
        play.write(0, 22, 15);
        play.x.deliver(0);
        due.is("15 bytes of which 14 came", play.x.side(1, 3), -1);
        due.is("are no hello", play.x.side(1, 5), 0);
    }

    private static void helloFirst(Due due) {
        due.sentence("the first not 1: 10");
        for (int first : new int[] {0, 2, 3, 129, 255}) {
            due.is("first " + first, serversCode(22, 14, first), 10);
        }
    }

    private static void unknownSecret(Due due) {
        due.sentence("s unknown: 115");
        for (int s : new int[] {1, 2, 19, 20, 21, 127, 128, 255}) {
            due.is("s " + s, serversCode(hello(7, s, SECRET)), 115);
        }
        due.is("s 0", serversCode(hello(7, 0, SECRET)), -1);
    }

    private static void unknownSecretLater(Due due) {
        due.sentence("s unknown: 115 (tickets that were given are known)");
        for (int s : new int[] {0, 1, 2, 20}) {
            Play play = Play.ready();
            play.x.close(0);
            play.settle();
            play.untilClientHello();
            play.write(0, hello(7, s, s == 0 ? SECRET : KEYS.ticketSecret(s)));
            play.x.deliver(0);
            due.is("s " + s + " when 1 was given", play.x.side(1, 3), s <= 1 ? -1 : 115);
        }
    }

    private static void badProof(Due due) {
        due.sentence("the proof is another: 51");
        due.is("another secret", serversCode(hello(7, 0, SECRET ^ 1)), 51);
        due.is("another secret's upper half", serversCode(hello(7, 0, SECRET ^ 1L << 63)), 51);
        for (int k = 3; k < 16; k++) {
            Play play = new Play(1, 2, 3);
            play.untilClientHello();
            play.x.alter(0, k, 1);
            play.x.deliver(0);
            due.is("byte " + k + " altered", play.x.side(1, 3), k == 11 ? 115 : 51);
        }
        Play play = Play.ready();
        play.x.close(0);
        play.settle();
        play.untilClientHello();
        play.write(0, hello(7, 1, SECRET));
        play.x.deliver(0);
        due.is("secret 0 for ticket 1", play.x.side(1, 3), 51);
    }

    private static void serversShares(Due due) {
        due.sentence("the share is not 2 .. P - 2: 47 (at the server)");
        for (int share : BAD_SHARES) {
            due.is("share " + share, serversCode(hello(share, 0, SECRET)), 47);
        }
        for (int share : GOOD_SHARES) {
            due.is("share " + share, serversCode(hello(share, 0, SECRET)), -1);
        }
    }

    private static void orderOfCodes(Due due) {
        due.sentence("fails: .. 10; s unknown: 115; the proof is another: 51; the share is not 2 .. P - 2: 47");
        int[] all = hello(1, 1, SECRET ^ 1);
        due.is("share, proof and s", serversCode(all), 115);
        int[] wrongFirst = all.clone();
        wrongFirst[2] = 9;
        due.is("all of it and the first", serversCode(wrongFirst), 10);
        due.is("share and proof", serversCode(hello(1, 0, SECRET ^ 1)), 51);
        due.is("share alone", serversCode(hello(1, 0, SECRET)), 47);
        Play play = new Play(1, 2, 3);
        play.untilClientHello();
        play.write(0, hello(1, 0, SECRET));
        play.x.deliver(0);
        due.is("one that fails draws nothing", play.x.side(1, 4), 0);
    }

    private static void serverHello(Due due) {
        due.sentence("Otherwise SERVER HELLO, sent as HELLO: 2, a drawn word, the share of a y that is drawn likewise");
        Play play = new Play(1, 2, 3);
        play.untilServerHello();
        due.is("SERVER HELLO", play.seen(1, 0), Play.told(1, 2, 0, 0, Reckon.join(Reckon.bytes(22, 9, 2),
            Reckon.word(Reckon.drawn(2, 1, 1)), Reckon.word(Reckon.power(7, Reckon.exponent(Reckon.drawn(2, 1, 2)))))));
        due.is("two draws", play.x.side(1, 4), 2);
    }

    private static void serversKeys(Due due) {
        due.sentence("H = DERIVE(E, 3, T), T with both hellos. The server's way gets DERIVE(H, 4, 1), the client's way DERIVE(H, 4, 0).");
        due.is("the server's FINISHED", beforeServersFinished().seen(1, 0), Play.told(1, 2, 1, 0,
            Reckon.sealed(KEYS.handshake[1], 0, 22, KEYS.serverFinished)));
        due.is("the client's FINISHED", beforeClientsFinished().seen(0, 0), Play.told(1, 2, 1, 0,
            Reckon.sealed(KEYS.handshake[0], 0, 22, KEYS.clientFinished)));
        int[] other = KEYS.serverHello.clone();
        other[1] ^= 1;
        Play play = new Play(1, 2, 3);
        play.untilServerHello();
        play.write(1, record(other));
        play.x.deliver(1);
        due.is("another SERVER HELLO is fine", play.x.side(0, 3), -1);
        play.x.deliver(1);
        due.is("but its bytes are in T", play.x.side(0, 3), 20);
    }

    private static void serversFinished(Due due) {
        due.sentence("Then the server sends FINISHED, sealed: 20, the word of FOLD(DERIVE(H, 5, 1), T), T being that of both hellos.");
        Play play = beforeServersFinished();
        due.is("FINISHED", play.seen(1, 0), Play.told(1, 2, 1, 0, Reckon.sealed(KEYS.handshake[1], 0, 22, KEYS.serverFinished)));
        due.is("20 first", KEYS.serverFinished[0], 20);
        play.x.deliver(1);
        due.is("the client takes it", play.is(0), "2 1 -1");
    }

    private static void answerType(Due due) {
        due.sentence("The client, which waits for SERVER HELLO: type not 22 .. : it fails with 10");
        due.is("type 21", clientsCode(21, 9, 2), 10);
        due.is("type 23", clientsCode(23, 9, 2), 10);
        due.is("type 22", clientsCode(record(KEYS.serverHello)), -1);
    }

    private static void answerLength(Due due) {
        due.sentence("or not 9 bytes: it fails with 10");
        for (int length = 1; length <= 15; length++) {
            int[] bytes = Reckon.join(Reckon.bytes(22, length), KEYS.serverHello, new int[6]);
            int code = clientsCode(java.util.Arrays.copyOf(bytes, 2 + length));
            due.is(length + " bytes", code, length == 9 ? -1 : 10);
        }
    }

    private static void answerFirst(Due due) {
        due.sentence("the first not 2: it fails with 10");
        for (int first : new int[] {0, 1, 3, 130, 255}) {
            int[] bytes = KEYS.serverHello.clone();
            bytes[0] = first;
            due.is("first " + first, clientsCode(record(bytes)), 10);
        }
    }

    private static void clientsShares(Due due) {
        due.sentence("share not 2 .. P - 2: 47 (at the client)");
        for (int share : BAD_SHARES) {
            due.is("share " + share, clientsCode(record(Reckon.serverHello(5, share))), 47);
            int[] wrongFirst = Reckon.serverHello(5, share);
            wrongFirst[0] = 1;
            due.is("and the first not 2", clientsCode(record(wrongFirst)), 10);
        }
        for (int share : GOOD_SHARES) {
            due.is("share " + share, clientsCode(record(Reckon.serverHello(5, share))), -1);
        }
    }

    private static void finishedType(Due due) {
        due.sentence("FINISHED: type not 23: 10");
        for (int reader = 0; reader < 2; reader++) {
            due.is("type 21", finishedCode(reader, 21), 10);
            due.is("type 22", finishedCode(reader, 22), 10);
            due.is("a hello again", finishedCode(reader, 22, 9, 2), 10);
            due.is("type 24", finishedCode(reader, 24), 50);
        }
    }

    private static void finishedOpening(Due due) {
        due.sentence("opening fails: 20");
        for (int reader = 0; reader < 2; reader++) {
            int[] right = reader == 0 ? KEYS.serverFinished : KEYS.clientFinished;
            int side = 1 - reader;
            for (int k = 2; k < 12; k++) {
                Play play = reader == 0 ? beforeServersFinished() : beforeClientsFinished();
                play.x.alter(side, k, 2);
                play.x.deliver(side);
                due.is("byte " + k + " altered", play.x.side(reader, 3), 20);
            }
            due.is("4 bytes", finishedCode(reader, 23, 4), 20);
            due.is("the session's key", finishedCode(reader, Reckon.sealed(KEYS.session[side], 0, 22, right)), 20);
            due.is("the other way's key", finishedCode(reader, Reckon.sealed(KEYS.handshake[reader], 0, 22, right)), 20);
            due.is("number 1", finishedCode(reader, Reckon.sealed(KEYS.handshake[side], 1, 22, right)), 20);
        }
    }

    private static void finishedForm(Due due) {
        due.sentence("not inner type 22, 5 bytes, 20 first: 10");
        for (int reader = 0; reader < 2; reader++) {
            int[] right = reader == 0 ? KEYS.serverFinished : KEYS.clientFinished;
            long key = KEYS.handshake[1 - reader];
            for (int inner : new int[] {0, 20, 21, 23, 24, 255}) {
                due.is("inner type " + inner, finishedCode(reader, Reckon.sealed(key, 0, inner, right)), 10);
            }
            for (int length = 0; length < 5; length++) {
                int[] part = java.util.Arrays.copyOf(right, length);
                due.is(length + " bytes", finishedCode(reader, Reckon.sealed(key, 0, 22, part)), 10);
            }
            for (int first : new int[] {0, 4, 19, 21, 24, 148}) {
                int[] other = right.clone();
                other[0] = first;
                due.is("first " + first, finishedCode(reader, Reckon.sealed(key, 0, 22, other)), 10);
            }
            due.is("the byte 24", finishedCode(reader, Reckon.sealed(key, 0, 22, 24)), 10);
            due.is("a ticket", finishedCode(reader, Reckon.sealed(key, 0, 22, 4, 1)), 10);
        }
    }

    private static void finishedWord(Due due) {
        due.sentence("another word: 51");
        for (int reader = 0; reader < 2; reader++) {
            int[] right = reader == 0 ? KEYS.serverFinished : KEYS.clientFinished;
            long key = KEYS.handshake[1 - reader];
            for (int i = 1; i <= 4; i++) {
                int[] other = right.clone();
                other[i] ^= 128;
                due.is("byte " + i, finishedCode(reader, Reckon.sealed(key, 0, 22, other)), 51);
            }
            due.is("the other's word", finishedCode(reader,
                Reckon.sealed(key, 0, 22, reader == 0 ? KEYS.clientFinished : KEYS.serverFinished)), 51);
            due.is("its own", finishedCode(reader, Reckon.sealed(key, 0, 22, right)), -1);
        }
    }

    private static void serversWay(Due due) {
        due.sentence("the server's way gets DERIVE(M, 7, 1) on both sides, as soon as the server has sent its FINISHED, and the client has read it");
        Play play = new Play(1, 2, 3);
        play.untilClientHello();
        play.x.deliver(0);
        due.is("sent: number 0", play.x.side(1, 9), 0);
        play = beforeClientsFinished();
        play.x.alter(0, 3, 1);
        play.x.deliver(0);
        due.is("the server's ALERT has it", play.seen(1, 1), Play.told(1, 2, 2, 0, Reckon.sealed(KEYS.session[1], 0, 21, 20)));
        play.deliverAll(1);
        due.is("the client reads it", play.x.side(0, 3), 276);
    }

    private static void clientsFinished(Due due) {
        due.sentence("The client sends its FINISHED, sealed with the key that it had: 20, the word of FOLD(DERIVE(H, 5, 0), T), T as for M");
        Play play = beforeClientsFinished();
        due.is("FINISHED", play.seen(0, 0), Play.told(1, 2, 1, 0, Reckon.sealed(KEYS.handshake[0], 0, 22, KEYS.clientFinished)));
        due.is("20 first", KEYS.clientFinished[0], 20);
    }

    private static void clientsWay(Due due) {
        due.sentence("then its way gets DERIVE(M, 7, 0), it is READY");
        Play play = beforeServersFinished();
        due.is("not yet", play.is(0), "2 0 -1");
        play.x.deliver(1);
        due.is("READY", play.is(0), "2 1 -1");
        due.is("number 0", play.x.side(0, 9), 0);
        play.x.update(0);
        due.is("the next record", play.seen(0, 2), Play.told(1, 2, 2, 0, Reckon.sealed(KEYS.session[0], 0, 22, 24)));
    }

    private static void serverReady(Due due) {
        due.sentence("and so is the server when it has read it");
        Play play = beforeClientsFinished();
        due.is("not yet", play.is(1), "2 0 -1");
        due.is("update(1)", play.x.update(1), false);
        play.x.update(0);
        play.x.disturb(0, 1);
        play.x.deliver(0);
        due.is("a later segment does not do it", play.is(1), "2 0 -1");
        play.x.deliver(0);
        due.is("READY", play.is(1), "2 1 -1");
        due.is("the later one is read too", play.x.side(1, 10), 0);
        due.is("update(1)", play.x.update(1), true);
    }

    private static void serverReadsFinished(Due due) {
        due.sentence("(20, 10, 51 likewise)");
        int[] codes = {20, 10, 51};
        int[][] records = {{23, 10, 0}, Reckon.sealed(KEYS.handshake[0], 0, 23, KEYS.clientFinished),
            Reckon.sealed(KEYS.handshake[0], 0, 22, KEYS.serverFinished)};
        for (int i = 0; i < codes.length; i++) {
            Play play = beforeClientsFinished();
            play.write(0, records[i]);
            play.x.deliver(0);
            due.is("code", play.is(1), "2 0 " + codes[i]);
            due.is("no ticket", play.x.about(2), 0);
            play.settle();
            due.is("the client is told", play.is(0), "2 1 " + (256 + codes[i]));
        }
    }

    private static void longFinished(Due due) {
        due.sentence("not inner type 22, 5 bytes: 10 (6 bytes)");
        Play play = beforeClientsFinished();
        play.x.update(0);
        play.forge(0, Reckon.sealed(KEYS.handshake[0], 0, 22, Reckon.join(KEYS.clientFinished, Reckon.bytes(0))));
        due.is("the server", play.is(1), "2 0 10");
        due.is("it was opened", play.x.side(1, 10), 1);
    }

    private static void ticket(Due due) {
        due.sentence("Then the server sends a TICKET, sealed, inner type 22: 4, its number");
        Play play = beforeClientsFinished();
        due.is("none before", play.x.about(2), 0);
        play.x.deliver(0);
        due.is("given", play.x.about(2), 1);
        due.is("TICKET", play.seen(1, 1), Play.told(1, 2, 2, 0, Reckon.sealed(KEYS.session[1], 0, 22, 4, 1)));
    }

    private static void ticketNumbers(Due due) {
        due.sentence("(the number of tickets given + 1; at most 20 are given, none after that)");
        Play play = new Play(1, 2, 3);
        for (int n = 1; n <= 21; n++) {
            play.x.connect(true);
            play.handshake();
            due.is("given", play.x.about(2), Math.min(n, 20));
            due.is("read", play.x.about(3), Math.min(n, 20));
            due.is("the server's segments", play.x.side(1, 5), n <= 20 ? 3 : 2);
            play.x.close(0);
            play.x.disturb(0, 0);
        }
        play.x.connect(true);
        play.handshake();
        due.is("READY with ticket 20", play.x.side(0, 2) + play.x.side(1, 2), 2);
        due.is("given", play.x.about(2), 20);
        play.x.close(0);
        play.x.disturb(0, 0);
        play.untilClientHello();
        play.write(0, hello(7, 21, SECRET));
        play.x.deliver(0);
        due.is("s 21", play.x.side(1, 3), 115);
    }

    private static void ticketSecret(Due due) {
        due.sentence("its secret is DERIVE(M, 9, number)");
        Play play = Play.ready();
        long secret = KEYS.ticketSecret(1);
        for (int n = 2; n <= 4; n++) {
            play.x.close(0);
            play.settle();
            play.x.connect(true);
            play.x.deliver(0);
            play.x.deliver(1);
            Keys keys = new Keys(1, 2, n, n - 1, secret);
            due.is("hello with ticket " + (n - 1), play.seen(0, 0), Play.told(n, 2, 0, 0, record(keys.clientHello)));
            play.settle();
            due.is("READY", play.x.side(0, 2) + play.x.side(1, 2), 2);
            secret = keys.ticketSecret(n);
        }
    }

    private static void ticketWhenRead(Due due) {
        due.sentence("which the client has when it reads it");
        Play play = beforeClientsFinished();
        play.x.deliver(0);
        due.is("given and not read", play.x.about(2) * 10 + play.x.about(3), 10);
        play.x.close(0);
        play.loseAll(0);
        play.loseAll(1);
        play.x.connect(true);
        play.x.deliver(0);
        play.x.deliver(1);
        due.is("s is 0, as none was read", play.x.datagram(0, 0, 5 + 11), 0);
        play.settle();
        due.is("the next has number 2", play.x.about(2) * 10 + play.x.about(3), 22);
    }

    private static void latestTicket(Due due) {
        due.sentence("With ticket true the secret is that of the latest ticket that it has read (0 if none), otherwise 0.");
        Play play = new Play(1, 2, 3);
        int[] want = {0, 1, 0, 3};
        boolean[] asked = {true, true, false, true};
        for (int i = 0; i < want.length; i++) {
            play.x.connect(asked[i]);
            play.x.deliver(0);
            play.x.deliver(1);
            due.is("s of connection " + (i + 1), play.x.datagram(0, 0, 5 + 11), want[i]);
            play.settle();
            due.is("READY", play.x.side(1, 2), 1);
            due.is("read", play.x.about(3), i + 1);
            play.x.close(0);
            play.settle();
        }
    }

    private static int[] sealed(int side, int inner, int... content) {
        return Reckon.sealed(Play.forgeKey(side), 0, inner, content);
    }

    private static int readyCode(int reader, int... bytes) {
        Play play = Play.withRoom(1 - reader, 1);
        play.forge(1 - reader, bytes);
        return play.x.side(reader, 3);
    }

    private static void ticketAtClient(Due due) {
        due.sentence("Inner type 22: the two bytes 4 and a number 1 .. 20, at the client: the ticket");
        int[] numbers = {0, 1, 2, 19, 20, 21, 128, 255};
        for (int number : numbers) {
            Play play = Play.withRoom(1, 1);
            play.forge(1, sealed(1, 22, 4, number));
            boolean fine = number >= 1 && number <= 20;
            due.is("number " + number, play.x.side(0, 3), fine ? -1 : 10);
            due.is("read", play.x.about(3), fine ? number : 1);
        }
        due.is("3 bytes", readyCode(0, sealed(1, 22, 4, 1, 0)), 10);
        due.is("1 byte", readyCode(0, sealed(1, 22, 4)), 10);
        due.is("3 first", readyCode(0, sealed(1, 22, 3, 1)), 10);
        due.is("5 first", readyCode(0, sealed(1, 22, 5, 1)), 10);
    }

    private static void latestRead(Due due) {
        due.sentence("the latest ticket that it has read: the one read last, not the highest");
        Play play = Play.withRoom(1, 2);
        long key = Play.forgeKey(1);
        play.forge(1, Reckon.join(Reckon.sealed(key, 0, 22, 4, 20), Reckon.sealed(key, 1, 22, 4, 3)));
        due.is("about(3)", play.x.about(3), 3);
        play.x.close(0);
        play.loseAll(0);
        play.loseAll(1);
        play.x.connect(true);
        play.x.deliver(0);
        play.x.deliver(1);
        Keys keys = new Keys(1, 2, 2, 3, KEYS.ticketSecret(3));
        due.is("hello with ticket 3", play.seen(0, 0), Play.told(2, 2, 0, 0, record(keys.clientHello)));
    }

    private static void ticketAtServer(Due due) {
        due.sentence("at the client: the ticket (at the server: 10)");
        for (int number : new int[] {0, 1, 20, 21}) {
            due.is("number " + number, readyCode(1, sealed(0, 22, 4, number)), 10);
        }
    }

    private static void updateByte(Due due) {
        due.sentence("the byte 24: the key of that way is DERIVE(key, 10, 0) from the next record on; all else: 10");
        for (int reader = 0; reader < 2; reader++) {
            int side = 1 - reader;
            long key = Play.forgeKey(side);
            int[] update = sealed(side, 22, 24);
            due.is("the byte 24", readyCode(reader, update), -1);
            due.is("the next key", readyCode(reader, Reckon.join(update, Reckon.sealed(Keys.next(key), 0, 21, 7))), 263);
            due.is("the old key", readyCode(reader, Reckon.join(update, Reckon.sealed(key, 1, 21, 7))), 20);
            for (int b : new int[] {0, 4, 20, 23, 25, 152}) {
                due.is("the byte " + b, readyCode(reader, sealed(side, 22, b)), 10);
            }
            due.is("two bytes", readyCode(reader, sealed(side, 22, 24, 0)), 10);
            due.is("24 24", readyCode(reader, sealed(side, 22, 24, 24)), 10);
            due.is("no byte", readyCode(reader, sealed(side, 22)), 10);
            due.is("FINISHED", readyCode(reader, sealed(side, 22, 20, 0, 0, 0, 0)), 10);
        }
    }

    private static void readyType(Due due) {
        due.sentence("READY: type not 23: 10; opening fails: 20");
        for (int reader = 0; reader < 2; reader++) {
            due.is("type 21", readyCode(reader, 21, 1, 0), 10);
            due.is("type 21, 14 bytes", readyCode(reader, 21, 14), 10);
            due.is("type 22", readyCode(reader, 22, 14, reader == 1 ? 1 : 2), 10);
            due.is("type 23", readyCode(reader, 23, 14), 20);
        }
    }
}

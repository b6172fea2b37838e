/** The sentences of SESSION and of promises 2, 13, 14 and 15, each by itself. */
public final class EdgeSessionTest {
    private static final int MIN = Integer.MIN_VALUE;
    private static final int MAX = Integer.MAX_VALUE;
    private static final int GET = 0;
    private static final int PUT = 1;
    private static final int DELETE = 2;
    private static final int SWAP = 3;
    private static final Keys KEYS = Keys.ready();

    public static void main(String[] args) {
        Due due = new Due("EdgeSessionTest");
        commandRefused(due);
        commandFull(due);
        commandEdges(due);
        sentWhenReady(due);
        sentWhenAnswered(due);
        sentBetween(due);
        sentWhenGiven(due);
        oneIsOut(due);
        notWhenClosed(due);
        firstWithoutAnswer(due);
        sentBytes(due);
        dataLength(due);
        dataOperation(due);
        dataKey(due);
        formBeforeNumber(due);
        numberOfTheLast(due);
        numberZero(due);
        numberNext(due);
        numberSixtyOne(due);
        numberElse(due);
        sameAnswerAgain(due);
        get(due);
        put(due);
        delete(due);
        swap(due);
        answerBytes(due);
        everyKey(due);
        clientsData(due);
        answerOfNone(due);
        outlasts(due);
        answerRefused(due);
        storedRefused(due);
        aboutRefused(due);
        aboutOut(due);
        due.end();
    }

    private static void commandRefused(Due due) {
        due.sentence("command. Refused (NONE): operation is not 0 .. 3, key is not 0 .. 15, value or old is not 0 .. 65535");
        Play play = Play.ready();
        String before = play.state();
        for (int operation : new int[] {-1, 4, 5, MIN, MAX}) {
            due.is("operation " + operation, play.x.command(operation, 0, 0, 0), -1);
        }
        for (int key : new int[] {-1, 16, 17, 255, 256, MIN, MAX}) {
            due.is("key " + key, play.x.command(0, key, 0, 0), -1);
        }
        for (int value : new int[] {-1, 65536, 65537, MIN, MAX}) {
            due.is("value " + value, play.x.command(0, 0, value, 0), -1);
            due.is("old " + value, play.x.command(0, 0, 0, value), -1);
            due.is("both " + value, play.x.command(1, 1, value, value), -1);
        }
        due.is("all is as before", play.state(), before);
        due.is("answer(1, 0)", play.x.answer(1, 0), -1);
    }

    private static void commandFull(Due due) {
        due.sentence("command. Refused (NONE): .. or there are 60");
        Play play = new Play(1, 2, 3);
        for (int n = 1; n <= 60; n++) {
            due.is("command " + n, play.x.command(PUT, n & 15, n, 0), n);
        }
        due.is("command 61", play.x.command(PUT, 0, 999, 0), -1);
        due.is("about(0)", play.x.about(0), 60);
        due.is("answer(60, 0)", play.x.answer(60, 0), 0);
        due.is("answer(61, 0)", play.x.answer(61, 0), -1);
        play.x.connect(false);
        play.handshake();
        for (int n = 1; n <= 60; n++) {
            play.x.deliver(0);
            play.x.deliver(1);
            play.x.deliver(1);
            play.x.deliver(0);
        }
        due.is("all 60 are carried out", play.x.about(1), 60);
        due.is("the last is answered", play.x.answer(60, 0), 1);
        due.is("of the refused one nothing", play.x.stored(0), 48);
        due.is("command when all are answered", play.x.command(PUT, 0, 999, 0), -1);
        due.is("none is out", play.x.about(4), 0);
    }

    private static void commandEdges(Due due) {
        due.sentence("The client gets a command; answers its number.");
        Play play = new Play(1, 2, 3);
        int[][] edges = {{0, 0, 0, 0}, {3, 15, 65535, 65535}, {1, 15, 0, 65535}, {2, 0, 65535, 0}};
        for (int i = 0; i < edges.length; i++) {
            due.is("command", play.x.command(edges[i][0], edges[i][1], edges[i][2], edges[i][3]), i + 1);
            play.x.command(4, 0, 0, 0);
        }
        due.is("about(0)", play.x.about(0), 4);
    }

    /** READY is reached in the middle of a call: the command goes behind the client's FINISHED. */
    private static void sentWhenReady(Due due) {
        due.sentence("(when it becomes READY, ..): the first that has no answer is sent");
        Play play = new Play(1, 2, 3);
        play.x.command(PUT, 1, 1, 0);
        play.untilServerHello();
        play.x.deliver(1);
        due.is("not before", play.x.about(4), 0);
        play.x.deliver(1);
        due.is("READY", play.x.side(0, 2), 1);
        due.is("out", play.x.about(4), 1);
        due.is("FINISHED, then the command", play.x.side(0, 5), 3);
        due.is("the command", play.seen(0, 3), Play.told(1, 2, 2, 0, Reckon.sealed(KEYS.session[0], 0, 23, 1, 1, 1, 0, 1, 0, 0)));
    }

    private static void sentWhenAnswered(Due due) {
        due.sentence("(.. when an answer was read, ..)");
        Play play = Play.ready();
        play.x.command(PUT, 1, 1, 0);
        play.x.command(PUT, 2, 2, 0);
        play.x.command(PUT, 3, 3, 0);
        for (int n = 1; n <= 3; n++) {
            due.is("out", play.x.about(4), n);
            play.x.deliver(0);
            due.is("not when it is carried out", play.x.about(4), n);
            play.x.deliver(1);
            due.is("not when it is confirmed", play.x.about(4), n);
            play.x.deliver(1);
            due.is("when the answer is read", play.x.about(4), n < 3 ? n + 1 : 0);
            play.x.deliver(0);
        }
    }

    /** An answer and an ALERT come in one segment: the next command is sent before the ALERT is read. */
    private static void sentBetween(Due due) {
        due.sentence("(.. when an answer was read, ..): at once, and not when all is read");
        Play play = Play.ready();
        play.x.command(GET, 1, 0, 0);
        play.x.command(GET, 2, 0, 0);
        play.loseAll(0);
        for (int i = 0; i < 8; i++) {
            play.x.update(1);
        }
        play.deliverAll(1);
        play.deliverAll(0);
        play.x.disturb(1, 1);
        play.write(1, java.util.Arrays.copyOfRange(answerAndAlert(), 16, 32));
        play.x.deliver(1);
        play.write(1, java.util.Arrays.copyOf(answerAndAlert(), 16));
        play.x.deliver(1);
        due.is("the ALERT is read", play.x.side(0, 3), 256 + 6);
        due.is("the answer was", play.x.answer(1, 0), 1);
        due.is("the second is out", play.x.about(4), 2);
        due.is("sealed two", play.x.side(0, 9), 2);
    }

    private static int[] answerAndAlert() {
        long key = Play.forgeKey(1);
        return java.util.Arrays.copyOf(Reckon.join(Reckon.sealed(key, 0, 23, 1, 0, 0, 0), Reckon.sealed(key, 1, 21, 6)), 32);
    }

    private static void sentWhenGiven(Due due) {
        due.sentence("(.. when a command is given)");
        Play play = Play.ready();
        due.is("none is out", play.x.about(4), 0);
        play.x.command(PUT, 1, 1, 0);
        due.is("out at once", play.x.about(4), 1);
        due.is("sent at once", play.x.flying(0), 1);
    }

    private static void oneIsOut(Due due) {
        due.sentence("and no command is out on this connection");
        Play play = Play.ready();
        for (int n = 1; n <= 5; n++) {
            play.x.command(PUT, 1, n, 0);
            due.is("one is sent", play.x.flying(0), 1);
            due.is("the first", play.x.about(4), 1);
        }
        due.is("sealed one", play.x.side(0, 9), 1);
    }

    private static void notWhenClosed(Due due) {
        due.sentence("When it is READY and not CLOSED");
        Play play = Play.ready();
        play.x.close(1);
        play.x.deliver(1);
        due.is("a command is taken", play.x.command(PUT, 1, 1, 0), 1);
        due.is("and not sent", play.x.about(4), 0);
        due.is("GOT alone", play.x.flying(0), 1);
        play = new Play(1, 2, 3);
        play.untilServerHello();
        play.x.command(PUT, 1, 1, 0);
        due.is("not READY", play.x.about(4), 0);
        due.is("nothing is sent", play.x.flying(0), 0);
    }

    private static void firstWithoutAnswer(Due due) {
        due.sentence("the first that has no answer is sent");
        Play play = Play.ready();
        play.x.command(PUT, 1, 1, 0);
        play.x.command(PUT, 1, 2, 0);
        play.x.command(PUT, 1, 3, 0);
        play.x.deliver(0);
        play.x.deliver(1);
        play.x.deliver(1);
        due.is("1 is answered, 2 is out", play.x.answer(1, 0) * 10 + play.x.about(4), 12);
        play.x.close(0);
        play.loseAll(0);
        play.loseAll(1);
        play.x.connect(true);
        due.is("none is out on a new one", play.x.about(4), 0);
        play.handshake();
        due.is("2 again, and carried out", play.x.about(1), 2);
        play.settle();
        due.is("all answered", play.x.answer(3, 0), 1);
        due.is("the value before the last", play.x.answer(3, 2), 2);
    }

    private static void sentBytes(Due due) {
        due.sentence("is sent as DATA: its number, operation, key, value (2 bytes), old value (2 bytes)");
        int[][] commands = {{3, 15, 65535, 256}, {0, 0, 0, 0}, {2, 8, 255, 65280}};
        for (int[] c : commands) {
            Play play = Play.ready();
            play.x.command(c[0], c[1], c[2], c[3]);
            due.is("DATA", play.seen(0, 0), Play.told(1, 2, 2, 0, Reckon.sealed(KEYS.session[0], 0, 23, 1, c[0], c[1],
                c[2] >> 8, c[2] & 255, c[3] >> 8, c[3] & 255)));
        }
    }

    /** How the server is CLOSED behind DATA with this content, as the first of a connection. */
    private static Play serverReads(int... content) {
        Play play = Play.withRoom(0, 1);
        play.forge(0, Reckon.sealed(Play.forgeKey(0), 0, 23, content));
        return play;
    }

    private static void dataLength(Due due) {
        due.sentence("DATA at the server: not 7 bytes: it fails with 50");
        int[] fine = {1, 1, 1, 0, 1, 0, 0, 0, 0};
        for (int length = 0; length <= 9; length++) {
            Play play = serverReads(java.util.Arrays.copyOf(fine, length));
            due.is(length + " bytes", play.x.side(1, 3), length == 7 ? -1 : 50);
            due.is("carried out", play.x.about(1), length == 7 ? 1 : 0);
        }
    }

    private static void dataOperation(Due due) {
        due.sentence("an operation not 0 .. 3: it fails with 50");
        for (int operation : new int[] {0, 1, 2, 3, 4, 5, 127, 128, 255}) {
            Play play = serverReads(1, operation, 1, 0, 1, 0, 0);
            due.is("operation " + operation, play.x.side(1, 3), operation <= 3 ? -1 : 50);
        }
    }

    private static void dataKey(Due due) {
        due.sentence("or a key above 15: it fails with 50");
        for (int key : new int[] {0, 1, 14, 15, 16, 17, 128, 255}) {
            Play play = serverReads(1, PUT, key, 0, 1, 0, 0);
            due.is("key " + key, play.x.side(1, 3), key <= 15 ? -1 : 50);
            due.is("stored", play.x.stored(key), key <= 15 ? 1 : -1);
        }
    }

    private static void formBeforeNumber(Due due) {
        due.sentence("it fails with 50. The number of the last one .. else it fails with 10");
        due.is("number 9 and key 16", serverReads(9, 1, 16, 0, 1, 0, 0).x.side(1, 3), 50);
        due.is("number 9 and operation 4", serverReads(9, 4, 1, 0, 1, 0, 0).x.side(1, 3), 50);
        due.is("number 0 and 6 bytes", serverReads(0, 1, 1, 0, 1, 0).x.side(1, 3), 50);
        due.is("number 9", serverReads(9, 1, 1, 0, 1, 0, 0).x.side(1, 3), 10);
    }

    /** The server has carried out two commands, PUT 5 and PUT 6 to key 1, and reads a third record in the place of its own. */
    private static Play thirdIs(int... content) {
        Play play = Play.ready();
        for (int value = 5; value <= 7; value++) {
            play.x.command(PUT, 1, value, 0);
            if (value < 7) {
                play.settle();
            }
        }
        play.write(0, Reckon.sealed(KEYS.session[0], 2, 23, content));
        play.x.deliver(0);
        return play;
    }

    private static void numberOfTheLast(Due due) {
        due.sentence("The number of the last one (not 0): the same answer is sent again");
        Play play = thirdIs(2, DELETE, 1, 0, 0, 0, 0);
        due.is("not failed", play.x.side(1, 3), -1);
        due.is("not carried out", play.x.stored(1), 6);
        due.is("last", play.x.about(1), 2);
        due.is("the same answer", play.seen(1, 1), Play.told(1, 2, 5, 0, Reckon.sealed(KEYS.session[1], 3, 23, 2, 1, 0, 5)));
        play = thirdIs(2, GET, 15, 1, 2, 3, 4);
        due.is("the same answer whatever it asks", play.seen(1, 1),
            Play.told(1, 2, 5, 0, Reckon.sealed(KEYS.session[1], 3, 23, 2, 1, 0, 5)));
    }

    private static void numberZero(Due due) {
        due.sentence("The number of the last one (not 0)");
        Play play = serverReads(0, PUT, 1, 0, 1, 0, 0);
        due.is("0 when none was carried out", play.x.side(1, 3), 10);
        due.is("not carried out", play.x.about(1) + play.x.stored(1), -1);
        due.is("0 behind others", thirdIs(0, PUT, 1, 0, 9, 0, 0).x.side(1, 3), 10);
    }

    private static void numberNext(Due due) {
        due.sentence("that + 1: it is carried out, and its answer sent");
        Play play = thirdIs(3, PUT, 1, 0, 9, 0, 0);
        due.is("not failed", play.x.side(1, 3), -1);
        due.is("carried out", play.x.stored(1), 9);
        due.is("last", play.x.about(1), 3);
        due.is("its answer", play.seen(1, 1), Play.told(1, 2, 5, 0, Reckon.sealed(KEYS.session[1], 3, 23, 3, 1, 0, 6)));
    }

    /** The client has at most 60, but that is no rule of the server's: a forger's next one is carried out. */
    private static void numberSixtyOne(Due due) {
        due.sentence("that + 1: it is carried out (61 behind 60)");
        Play play = new Play(1, 2, 3);
        for (int n = 1; n <= 60; n++) {
            play.x.command(PUT, 0, n, 0);
        }
        play.x.connect(false);
        play.handshake();
        for (int n = 1; n <= 60; n++) {
            for (int direction : new int[] {0, 1, 1, 0}) {
                play.x.deliver(direction);
            }
        }
        due.is("the last", play.x.about(1), 60);
        for (int i = 0; i < 6; i++) {
            play.x.update(0);
        }
        play.deliverAll(0);
        play.deliverAll(1);
        play.forge(0, Reckon.sealed(Play.forgeKey(0), 0, 23, 61, PUT, 0, 0, 99, 0, 0));
        due.is("the last", play.x.about(1), 61);
        due.is("stored", play.x.stored(0), 99);
    }

    private static void numberElse(Due due) {
        due.sentence("else it fails with 10");
        for (int number : new int[] {0, 1, 4, 5, 128, 255}) {
            Play play = thirdIs(number, PUT, 1, 0, 9, 0, 0);
            due.is("number " + number + " behind 2", play.x.side(1, 3), 10);
            due.is("not carried out", play.x.stored(1), 6);
            due.is("last", play.x.about(1), 2);
            due.is("ALERT and no answer", play.x.flying(1), 2);
        }
    }

    private static void sameAnswerAgain(Due due) {
        due.sentence("a session that carries every command out once, however often the stream breaks");
        Play play = new Play(1, 2, 3);
        play.x.command(PUT, 4, 1, 0);
        play.x.command(SWAP, 4, 2, 1);
        for (int round = 1; round <= 6; round++) {
            play.x.connect(round % 2 == 0);
            play.handshake();
            play.x.deliver(0);
            due.is("carried out once", play.x.about(1), 1);
            due.is("stored", play.x.stored(4), 1);
            due.is("no answer", play.x.answer(1, 0), 0);
            play.x.close(0);
            play.loseAll(0);
            play.loseAll(1);
        }
        play.x.connect(false);
        play.settle();
        due.is("the answer of the first time", play.x.answer(1, 1), 0);
        due.is("the next", play.x.answer(2, 1), 1);
        due.is("stored", play.x.stored(4), 2);
    }

    /** Gives commands of one key, each when the one before is answered; rows: operation, value, old, due: result, value, stored. */
    private static void run(Due due, int key, int[]... rows) {
        Play play = Play.ready();
        for (int i = 0; i < rows.length; i++) {
            int[] r = rows[i];
            play.x.command(r[0], key, r[1], r[2]);
            play.settle();
            String call = "command " + (i + 1);
            due.is(call + ": result", play.x.answer(i + 1, 1), r[3]);
            due.is(call + ": value", play.x.answer(i + 1, 2), r[4]);
            due.is(call + ": stored", play.x.stored(key), r[5]);
        }
    }

    private static void get(Due due) {
        due.sentence("Operations: 0 GET. The ANSWER: 1 if the key was there, else 0; the value that it had (0 if none)");
        run(due, 0, new int[][] {{GET, 9, 9, 0, 0, -1}, {PUT, 65535, 0, 0, 0, 65535}, {GET, 9, 9, 1, 65535, 65535},
            {PUT, 0, 0, 1, 65535, 0}, {GET, 9, 9, 1, 0, 0}});
    }

    private static void put(Due due) {
        due.sentence("1 PUT. The ANSWER: PUT: 1 if it was there, else 0");
        run(due, 15, new int[][] {{PUT, 1, 1, 0, 0, 1}, {PUT, 2, 2, 1, 1, 2}, {PUT, 2, 0, 1, 2, 2},
            {DELETE, 0, 0, 1, 2, -1}, {PUT, 0, 0, 0, 0, 0}, {PUT, 65535, 0, 1, 0, 65535}});
    }

    private static void delete(Due due) {
        due.sentence("2 DELETE");
        run(due, 7, new int[][] {{DELETE, 1, 1, 0, 0, -1}, {PUT, 256, 0, 0, 0, 256}, {DELETE, 1, 1, 1, 256, -1},
            {DELETE, 1, 1, 0, 0, -1}, {GET, 0, 0, 0, 0, -1}, {PUT, 0, 0, 0, 0, 0}, {DELETE, 0, 9, 1, 0, -1}});
    }

    private static void swap(Due due) {
        due.sentence("3 SWAP (if the key is there with the old value, the value is put)");
        run(due, 3, new int[][] {{SWAP, 5, 0, 0, 0, -1}, {SWAP, 5, 65535, 0, 0, -1}, {PUT, 0, 0, 0, 0, 0},
            {SWAP, 5, 1, 0, 0, 0}, {SWAP, 5, 0, 1, 0, 5}, {SWAP, 6, 4, 0, 5, 5}, {SWAP, 65535, 5, 1, 5, 65535},
            {SWAP, 0, 65534, 0, 65535, 65535}, {SWAP, 0, 65535, 1, 65535, 0}, {SWAP, 0, 0, 1, 0, 0}});
    }

    private static void answerBytes(Due due) {
        due.sentence("The ANSWER: its number, a result .., and 2 bytes: the value that it had (0 if none)");
        Play play = Play.ready();
        int[][] want = {{1, 0, 0, 0}, {2, 1, 0xAB, 0xCD}, {3, 1, 0xAB, 0xCD}, {4, 0, 0, 0}};
        int[] operations = {PUT, GET, DELETE, GET};
        for (int i = 0; i < want.length; i++) {
            play.x.command(operations[i], 2, 0xABCD, 0);
            play.x.deliver(0);
            due.is("answer " + (i + 1), play.seen(1, 1), Play.told(1, 2, 3 + i, 0, Reckon.sealed(KEYS.session[1], 1 + i, 23, want[i])));
            play.settle();
        }
    }

    private static void everyKey(Due due) {
        due.sentence("The server has a STORE, 16 keys, each with a value or none");
        Play play = Play.ready();
        for (int key = 0; key < 16; key++) {
            play.x.command(PUT, key, 1000 + key, 0);
        }
        play.settle();
        play.x.command(DELETE, 9, 0, 0);
        play.settle();
        for (int key = 0; key < 16; key++) {
            due.is("stored(" + key + ")", play.x.stored(key), key == 9 ? -1 : 1000 + key);
        }
    }

    private static Play clientReads(int... content) {
        Play play = Play.ready();
        play.x.command(GET, 1, 0, 0);
        play.x.command(GET, 1, 0, 0);
        play.loseAll(0);
        for (int i = 0; i < 6; i++) {
            play.x.update(1);
        }
        play.deliverAll(1);
        play.deliverAll(0);
        play.forge(1, Reckon.sealed(Play.forgeKey(1), 0, 23, content));
        return play;
    }

    private static void clientsData(Due due) {
        due.sentence("DATA at the client: 4 bytes with the number of the command that is out: that is its answer; else it fails with 10");
        int[] fine = {1, 1, 2, 3, 4, 5};
        for (int length = 0; length <= 6; length++) {
            Play play = clientReads(java.util.Arrays.copyOf(fine, length));
            due.is(length + " bytes", play.x.side(0, 3), length == 4 ? -1 : 10);
            due.is("answered", play.x.answer(1, 0), length == 4 ? 1 : 0);
            due.is("out", play.x.about(4), length == 4 ? 2 : 1);
        }
        for (int number : new int[] {0, 2, 3, 129, 255}) {
            Play play = clientReads(number, 1, 2, 3);
            due.is("number " + number, play.x.side(0, 3), 10);
            due.is("no answer", play.x.answer(1, 0) + play.x.answer(2, 0), 0);
        }
        Play play = clientReads(1, 255, 255, 255);
        due.is("result", play.x.answer(1, 1), 255);
        due.is("value", play.x.answer(1, 2), 65535);
    }

    private static void answerOfNone(Due due) {
        due.sentence("with the number of the command that is out (none is out: 10)");
        for (int number : new int[] {0, 1, 2}) {
            Play play = Play.withRoom(1, 1);
            play.forge(1, Reckon.sealed(Play.forgeKey(1), 0, 23, number, 0, 0, 0));
            due.is("number " + number, play.x.side(0, 3), 10);
            due.is("no command", play.x.answer(1, 0), -1);
        }
    }

    private static void outlasts(Due due) {
        due.sentence("and the number of the command carried out last (0 at first), with its answer; all this outlasts connections");
        Play play = new Play(1, 2, 3);
        due.is("0 at first", play.x.about(1), 0);
        play.x.command(PUT, 1, 76, 0);
        play.x.command(PUT, 1, 77, 0);
        play.x.connect(false);
        play.handshake();
        for (int direction : new int[] {0, 1, 1, 0, 0}) {
            play.x.deliver(direction);
        }
        due.is("two are carried out, one is answered", play.x.about(1) * 10 + play.x.about(4), 22);
        play.x.close(0);
        play.loseAll(0);
        play.loseAll(1);
        play.x.connect(false);
        play.x.deliver(0);
        due.is("a new connection", play.x.side(1, 0), 2);
        due.is("the store", play.x.stored(1), 77);
        due.is("the last", play.x.about(1), 2);
        play.settle();
        due.is("its answer", play.x.answer(2, 0), 1);
        due.is("it was there", play.x.answer(2, 1), 1);
        due.is("the value that it had", play.x.answer(2, 2), 76);
    }

    private static void answerRefused(Due due) {
        due.sentence("answer. NONE when there is no such command or what is not 0 .. 2 (1 and 2: NONE without an answer)");
        Play play = Play.ready();
        for (int n : new int[] {0, 1, 60, 61, -1, MIN, MAX}) {
            due.is("answer(" + n + ", 0) without commands", play.x.answer(n, 0), -1);
        }
        play.x.command(PUT, 1, 9, 0);
        play.x.command(GET, 1, 0, 0);
        int[][] open = {{0, 0}, {1, -1}, {2, -1}, {3, -1}, {-1, -1}, {MIN, -1}, {MAX, -1}};
        for (int[] o : open) {
            due.is("answer(2, " + o[0] + ") without an answer", play.x.answer(2, o[0]), o[1]);
        }
        play.settle();
        int[][] done = {{0, 1}, {1, 1}, {2, 9}, {3, -1}, {-1, -1}, {MIN, -1}, {MAX, -1}};
        for (int[] d : done) {
            due.is("answer(2, " + d[0] + ")", play.x.answer(2, d[0]), d[1]);
        }
        int[] first = {1, 0, 0};
        for (int what = 0; what < 3; what++) {
            due.is("answer(1, " + what + ")", play.x.answer(1, what), first[what]);
        }
        for (int n : new int[] {0, 3, 60, 61, -1, MIN, MAX}) {
            due.is("answer(" + n + ", 0)", play.x.answer(n, 0), -1);
        }
    }

    private static void storedRefused(Due due) {
        due.sentence("The value of a key in the store; NONE when it has none or there is no such key.");
        Play play = Play.ready();
        play.x.command(PUT, 0, 0, 0);
        play.x.command(PUT, 15, 65535, 0);
        play.settle();
        due.is("stored(0)", play.x.stored(0), 0);
        due.is("stored(15)", play.x.stored(15), 65535);
        due.is("stored(1)", play.x.stored(1), -1);
        for (int key : new int[] {-1, 16, 17, MIN, MAX}) {
            due.is("stored(" + key + ")", play.x.stored(key), -1);
        }
    }

    private static void aboutRefused(Due due) {
        due.sentence("about. NONE for another what.");
        Play play = Play.ready();
        play.x.command(PUT, 1, 1, 1);
        int[] want = {1, 0, 1, 1, 1};
        for (int what = 0; what < want.length; what++) {
            due.is("about(" + what + ")", play.x.about(what), want[what]);
        }
        for (int what : new int[] {-1, 5, 6, MIN, MAX}) {
            due.is("about(" + what + ")", play.x.about(what), -1);
        }
    }

    private static void aboutOut(Due due) {
        due.sentence("the command that is out on the client's connection, 0 if none (none on one that is new or BROKEN; a CLOSED one keeps it)");
        Play play = Play.ready();
        due.is("none", play.x.about(4), 0);
        play.x.command(PUT, 1, 1, 1);
        due.is("out", play.x.about(4), 1);
        play.x.close(0);
        due.is("CLOSED by itself", play.x.about(4), 1);
        play.x.tick(30);
        due.is("BROKEN", play.x.side(0, 1) * 10 + play.x.about(4), 30);
        play = Play.ready();
        play.x.command(PUT, 1, 1, 1);
        play.x.close(1);
        play.x.deliver(1);
        due.is("CLOSED by the other", play.x.side(0, 3) + play.x.about(4), 257);
        play.x.connect(false);
        due.is("a new one", play.x.about(4), 0);
        play = Play.ready();
        play.x.command(PUT, 1, 1, 1);
        play.x.update(1);
        play.loseAll(1);
        play.x.tick(29);
        play.loseAll(1);
        play.x.deliver(0);
        play.x.deliver(1);
        play.loseAll(1);
        play.x.tick(1);
        play.loseAll(0);
        while (play.x.flying(1) > 1) {
            play.x.disturb(1, 0);
        }
        due.is("RESET", play.x.deliver(1), 4);
        due.is("BROKEN by the other", play.x.side(0, 1) * 10 + play.x.about(4), 30);
    }
}

/** The sentences of FAIL, ALERT and CLOSED, and of promise 4, each by itself. */
public final class EdgeFailTest {
    private static final Keys KEYS = Keys.ready();
    private static final long SECRET = Reckon.fold(3, 0, 0);

    public static void main(String[] args) {
        Due due = new Due("EdgeFailTest");
        sealedAlert(due);
        plainAlertOfServer(due);
        plainAlertOfClient(due);
        code0(due);
        code10(due);
        code20(due);
        code47(due);
        code50(due);
        code51(due);
        code115(due);
        readsNothing(due);
        sealsNothing(due);
        streamsGoOn(due);
        waitingGoesOn(due);
        readyStill(due);
        notReady(due);
        plainTold(due);
        plainLength(due);
        plainWithKey(due);
        sealedTold(due);
        sealedLength(due);
        sealedBeforeReady(due);
        toldSendsNothing(due);
        restOfSegment(due);
        closeRefused(due);
        closeOnce(due);
        due.end();
    }

    private static Play hello(int... record) {
        Play play = new Play(1, 2, 3);
        play.untilClientHello();
        play.write(0, record);
        play.x.deliver(0);
        return play;
    }

    private static Play answeredHello(int... record) {
        Play play = new Play(1, 2, 3);
        play.untilServerHello();
        play.write(1, record);
        play.x.deliver(1);
        return play;
    }

    private static int[] sealed(int side, int n, int inner, int... content) {
        return Reckon.sealed(Play.forgeKey(side), n, inner, content);
    }

    private static int[] clientHello(int share, int number, long secret) {
        return Reckon.join(Reckon.bytes(22, 14), Reckon.clientHello(5, share, number, secret));
    }

    private static void sealedAlert(Due due) {
        due.sentence("an ALERT with this one byte is sent (sealed if the side's own way has a key)");
        for (int side = 0; side < 2; side++) {
            Play play = Play.ready();
            play.x.update(1 - side);
            play.x.alter(1 - side, 2, 1);
            play.x.deliver(1 - side);
            due.is("READY", play.seen(side, 1), Play.told(1, 2, 2 + side, 0, Reckon.sealed(KEYS.session[side], side, 21, 20)));
            due.is("CLOSED with this code", play.x.side(side, 3), 20);
        }
        Play play = new Play(1, 2, 3);
        play.untilServerHello();
        play.x.deliver(1);
        play.x.alter(1, 2, 1);
        play.x.deliver(1);
        due.is("the client waits for FINISHED", play.seen(0, 2), Play.told(1, 2, 1, 0, Reckon.sealed(KEYS.handshake[0], 0, 21, 20)));
        play = new Play(1, 2, 3);
        play.untilServerHello();
        play.deliverAll(1);
        play.x.disturb(0, 0);
        play.x.disturb(0, 0);
        play.x.alter(0, 2, 1);
        play.x.deliver(0);
        due.is("the server waits for FINISHED", play.seen(1, 1), Play.told(1, 2, 2, 0, Reckon.sealed(KEYS.session[1], 0, 21, 20)));
    }

    private static void plainAlertOfServer(Due due) {
        due.sentence("else as a record of type 21: the server");
        Play play = hello(22, 14, 0);
        due.is("GOT, then the ALERT", play.x.flying(1), 2);
        due.is("ALERT", play.seen(1, 1), Play.told(1, 2, 0, 0, 21, 1, 10));
        due.is("CLOSED", play.is(1), "2 0 10");
        play.settle();
        due.is("the client is told", play.is(0), "2 0 266");
    }

    private static void plainAlertOfClient(Due due) {
        due.sentence("else as a record of type 21: the client");
        Play play = answeredHello(22, 9, 0);
        due.is("ALERT", play.seen(0, 1), Play.told(1, 2, 1, 0, 21, 1, 10));
        due.is("CLOSED", play.is(0), "2 0 10");
        play.settle();
        due.is("the server's way has a key, and so has the client's: unexpected", play.is(1), "2 0 10");
    }

    private static void code0(Due due) {
        due.sentence("Codes: 0 close");
        Play play = Play.ready();
        play.x.close(0);
        due.is("CLOSED", play.x.side(0, 3), 0);
        play.settle();
        due.is("told", play.x.side(1, 3), 256);
    }

    private static void code10(Due due) {
        due.sentence("Codes: 10 unexpected");
        Play play = hello(23, 14);
        due.is("CLOSED", play.x.side(1, 3), 10);
        play.settle();
        due.is("told", play.x.side(0, 3), 266);
    }

    private static void code20(Due due) {
        due.sentence("Codes: 20 bad record");
        Play play = Play.ready();
        play.x.command(0, 0, 0, 0);
        play.x.alter(0, 13, 1);
        play.x.deliver(0);
        due.is("CLOSED", play.x.side(1, 3), 20);
        play.settle();
        due.is("told", play.x.side(0, 3), 276);
    }

    private static void code47(Due due) {
        due.sentence("Codes: 47 bad number");
        Play play = hello(clientHello(1, 0, SECRET));
        due.is("CLOSED", play.x.side(1, 3), 47);
        play.settle();
        due.is("told", play.x.side(0, 3), 303);
    }

    private static void code50(Due due) {
        due.sentence("Codes: 50 bad form");
        Play play = hello(24, 14);
        due.is("CLOSED", play.x.side(1, 3), 50);
        play.settle();
        due.is("told", play.x.side(0, 3), 306);
    }

    private static void code51(Due due) {
        due.sentence("Codes: 51 bad proof");
        Play play = hello(clientHello(49, 0, SECRET - 1));
        due.is("CLOSED", play.x.side(1, 3), 51);
        play.settle();
        due.is("told", play.x.side(0, 3), 307);
    }

    private static void code115(Due due) {
        due.sentence("Codes: 115 unknown secret");
        Play play = hello(clientHello(49, 1, SECRET));
        due.is("CLOSED", play.x.side(1, 3), 115);
        play.settle();
        due.is("told", play.x.side(0, 3), 371);
    }

    private static void readsNothing(Due due) {
        due.sentence("A side that is CLOSED reads nothing more");
        for (int side = 0; side < 2; side++) {
            Play play = Play.ready();
            play.x.update(1 - side);
            play.x.close(1 - side);
            play.x.close(side);
            int before = play.x.side(side, 10);
            play.deliverAll(1 - side);
            due.is("neither the byte 24 nor the ALERT", play.x.side(side, 3), 0);
            due.is("nothing was opened", play.x.side(side, 10), before);
            due.is("but all was taken", play.x.side(side, 8), 5 - side);
        }
        Play play = Play.withRoom(0, 1);
        play.forge(0, Reckon.join(sealed(0, 0, 21, 9), sealed(0, 1, 21, 8)));
        due.is("the first of two ALERTs", play.x.side(1, 3), 265);
        play = Play.withRoom(0, 2);
        play.forge(0, 24, 1);
        due.is("bad form", play.x.side(1, 3), 50);
        play.forge(0, sealed(0, 0, 21, 8));
        due.is("stays", play.x.side(1, 3), 50);
    }

    private static void sealsNothing(Due due) {
        due.sentence("A side that is CLOSED .. seals nothing more");
        Play play = Play.ready();
        play.x.close(0);
        int sequence = play.x.side(0, 9);
        play.x.command(1, 1, 1, 1);
        play.x.update(0);
        play.x.close(0);
        due.is("the client's number", play.x.side(0, 9), sequence);
        due.is("the ALERT alone", play.x.flying(0), 1);
        due.is("no command is out", play.x.about(4), 0);
        play = Play.ready();
        play.x.command(1, 1, 1, 1);
        play.x.close(1);
        sequence = play.x.side(1, 9);
        play.x.deliver(0);
        due.is("the server's number", play.x.side(1, 9), sequence);
        due.is("the ALERT and GOT", play.x.flying(1), 2);
        play = Play.ready();
        play.x.command(1, 1, 1, 1);
        play.x.command(1, 2, 1, 1);
        play.x.deliver(0);
        play.x.close(0);
        play.deliverAll(1);
        due.is("no second command", play.x.about(4), 1);
        due.is("the answer is not read", play.x.answer(1, 0), 0);
    }

    private static void streamsGoOn(Due due) {
        due.sentence("its streams go on");
        for (int side = 0; side < 2; side++) {
            Play play = Play.ready();
            play.x.close(side);
            play.x.update(1 - side);
            play.x.deliver(1 - side);
            due.is("it confirms", play.x.datagram(side, 1, 1), 3);
            due.is("expected", play.x.side(side, 8), 4 - side);
            play.loseAll(side);
            play.x.tick(5);
            due.is("it sends again", play.x.datagram(side, 0, 1), 2);
            play.settle();
            due.is("it takes GOT", play.x.side(side, 6), 3 + side);
            due.is("the ALERT came", play.x.side(1 - side, 3), 256);
            play = Play.ready();
            play.x.close(side);
            play.x.tick(30);
            due.is("it breaks", play.x.side(side, 1), 3);
        }
    }

    private static void waitingGoesOn(Due due) {
        due.sentence("its streams go on: bytes that wait are sent");
        Play play = Play.ready();
        for (int i = 0; i < 6; i++) {
            play.x.update(0);
        }
        play.x.close(0);
        due.is("wait", play.x.side(0, 7), 24);
        play.deliverAll(0);
        play.deliverAll(1);
        due.is("wait no more", play.x.side(0, 7), 0);
        play.settle();
        due.is("the ALERT came", play.x.side(1, 3), 256);
        due.is("all confirmed", play.x.side(0, 6), play.x.side(0, 5));
    }

    private static void readyStill(Due due) {
        due.sentence("and it is READY still, if it was");
        Play play = Play.ready();
        play.x.close(0);
        due.is("the client", play.is(0), "2 1 0");
        play.settle();
        due.is("the server", play.is(1), "2 1 256");
        play = Play.ready();
        play.x.update(0);
        play.x.alter(0, 0, 255);
        play.x.deliver(0);
        due.is("one that failed", play.is(1), "2 1 50");
    }

    private static void notReady(Due due) {
        due.sentence("READY still, if it was: one that was not is not");
        due.is("the server", hello(22, 14, 2).is(1), "2 0 10");
        due.is("the client", answeredHello(22, 9, 1).is(0), "2 0 10");
        Play play = answeredHello(22, 9, 1);
        due.is("close", play.x.close(0), false);
        due.is("connect, since it is not READY", play.x.connect(false), 2);
    }

    private static void plainTold(Due due) {
        due.sentence("A record of type 21 with one byte on a way without a key .. is an ALERT: it is CLOSED with that byte + 256");
        for (int b : new int[] {0, 1, 10, 127, 128, 255}) {
            due.is("the server told " + b, hello(21, 1, b).is(1), "2 0 " + (256 + b));
            due.is("the client told " + b, answeredHello(21, 1, b).is(0), "2 0 " + (256 + b));
        }
    }

    private static void plainLength(Due due) {
        due.sentence("A record of type 21 with one byte (with more: none)");
        due.is("2 bytes at the server", hello(21, 2, 0, 0).is(1), "2 0 10");
        due.is("14 bytes at the server", hello(21, 14, 1).is(1), "2 0 10");
        due.is("2 bytes at the client", answeredHello(21, 2, 0, 0).is(0), "2 0 10");
        due.is("9 bytes at the client", answeredHello(21, 9, 2).is(0), "2 0 10");
        due.is("1 byte of type 22", hello(22, 1, 0).is(1), "2 0 10");
        due.is("1 byte of type 23", hello(23, 1, 0).is(1), "2 0 10");
    }

    private static void plainWithKey(Due due) {
        due.sentence("on a way without a key (with a key it is unexpected)");
        for (int reader = 0; reader < 2; reader++) {
            Play play = Play.withRoom(1 - reader, 1);
            play.forge(1 - reader, 21, 1, 0);
            due.is("READY", play.is(reader), "2 1 10");
        }
        Play play = new Play(1, 2, 3);
        play.untilServerHello();
        play.x.deliver(1);
        play.write(1, 21, 1, 0);
        play.x.deliver(1);
        due.is("the client waits for FINISHED", play.is(0), "2 0 10");
        play = new Play(1, 2, 3);
        play.untilServerHello();
        play.deliverAll(1);
        play.x.disturb(0, 0);
        play.x.disturb(0, 0);
        play.write(0, 21, 1, 0);
        play.x.deliver(0);
        due.is("the server waits for FINISHED", play.is(1), "2 0 10");
    }

    private static void sealedTold(Due due) {
        due.sentence("and a sealed one with inner type 21 and one byte, is an ALERT, whatever the side waits for");
        for (int reader = 0; reader < 2; reader++) {
            for (int b : new int[] {0, 24, 128, 255}) {
                Play play = Play.withRoom(1 - reader, 1);
                play.forge(1 - reader, sealed(1 - reader, 0, 21, b));
                due.is("told " + b, play.is(reader), "2 1 " + (256 + b));
            }
        }
    }

    private static void sealedLength(Due due) {
        due.sentence("inner type 21 and one byte (another length: unexpected)");
        for (int reader = 0; reader < 2; reader++) {
            for (int[] content : new int[][] {{}, {0, 0}, {1, 2, 3}}) {
                Play play = Play.withRoom(1 - reader, 1);
                play.forge(1 - reader, sealed(1 - reader, 0, 21, content));
                due.is(content.length + " bytes", play.is(reader), "2 1 10");
            }
        }
    }

    private static void sealedBeforeReady(Due due) {
        due.sentence("is an ALERT, whatever the side waits for: FINISHED");
        for (int[] content : new int[][] {{}, {9}, {9, 9}}) {
            int code = content.length == 1 ? 265 : 10;
            Play play = new Play(1, 2, 3);
            play.untilServerHello();
            play.x.deliver(1);
            play.write(1, Reckon.sealed(KEYS.handshake[1], 0, 21, content));
            play.x.deliver(1);
            due.is("the client", play.is(0), "2 0 " + code);
            play = new Play(1, 2, 3);
            play.untilServerHello();
            play.deliverAll(1);
            play.x.disturb(0, 0);
            play.x.disturb(0, 0);
            play.write(0, Reckon.sealed(KEYS.handshake[0], 0, 21, content));
            play.x.deliver(0);
            due.is("the server", play.is(1), "2 0 " + code);
        }
    }

    private static void toldSendsNothing(Due due) {
        due.sentence("it is CLOSED with that byte + 256 (and sends no ALERT)");
        due.is("the server: GOT alone", hello(21, 1, 3).x.flying(1), 1);
        due.is("the client: GOT alone", answeredHello(21, 1, 3).x.flying(0), 1);
        for (int side = 0; side < 2; side++) {
            Play play = Play.ready();
            play.x.close(side);
            int made = play.x.side(1 - side, 5);
            play.x.deliver(side);
            due.is("GOT alone", play.x.flying(1 - side), 1);
            due.is("no segment", play.x.side(1 - side, 5), made);
        }
    }

    private static void restOfSegment(Due due) {
        due.sentence("A side that is CLOSED reads nothing more: what stands behind in the same segment");
        Play play = Play.withRoom(0, 1);
        play.forge(0, Reckon.join(sealed(0, 0, 22, 25), sealed(0, 1, 22, 24)));
        due.is("the first failed", play.x.side(1, 3), 10);
        due.is("the second is not opened", play.x.side(1, 10), 1);
        due.is("one ALERT", play.x.flying(1), 2);
        play = hello(21, 1, 5, 21, 1, 6);
        due.is("the first of two", play.x.side(1, 3), 261);
    }

    private static void closeRefused(Due due) {
        due.sentence("close. Refused: there is no such side, or it is not READY, UP and not CLOSED.");
        Play play = new Play(1, 2, 3);
        int[] sides = {-1, 0, 1, 2, Integer.MIN_VALUE, Integer.MAX_VALUE};
        for (int step = 0; step < 5; step++) {
            String before = play.state();
            for (int side : sides) {
                due.is("close(" + side + ") at step " + step, play.x.close(side), false);
            }
            due.is("all is as before", play.state(), before);
            if (step == 0) {
                play.x.connect(false);
            } else {
                play.x.deliver(step == 1 || step == 3 ? 0 : 1);
            }
        }
        play.x.deliver(1);
        play.x.deliver(1);
        due.is("the client is READY", play.is(0), "2 1 -1");
        due.is("close(1) of a server that is not", play.x.close(1), false);
        due.is("close(-1)", play.x.close(-1), false);
        due.is("close(2)", play.x.close(2), false);
        due.is("close(0)", play.x.close(0), true);
        play = Play.ready();
        play.x.update(0);
        play.x.tick(30);
        due.is("close(0) of a BROKEN one", play.x.close(0), false);
        due.is("not CLOSED", play.x.side(0, 3), -1);
    }

    private static void closeOnce(Due due) {
        due.sentence("A side fails with code 0: true.");
        for (int side = 0; side < 2; side++) {
            Play play = Play.ready();
            due.is("close", play.x.close(side), true);
            due.is("CLOSED", play.x.side(side, 3), 0);
            due.is("ALERT", play.seen(side, 0), Play.told(1, 2, 2 + side, 0, Reckon.sealed(KEYS.session[side], side, 21, 0)));
            due.is("close again", play.x.close(side), false);
            due.is("one ALERT", play.x.flying(side), 1);
            play.settle();
            due.is("close by one who was told", play.x.close(1 - side), false);
            due.is("CLOSED stays", play.x.side(1 - side, 3), 256);
        }
    }
}

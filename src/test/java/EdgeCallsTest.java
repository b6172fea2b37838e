/** The sentences of promises 1, 3, 5 and 12, each by itself. */
public final class EdgeCallsTest {
    private static final int MIN = Integer.MIN_VALUE;
    private static final int MAX = Integer.MAX_VALUE;
    private static final Keys KEYS = Keys.ready();

    public static void main(String[] args) {
        Due due = new Due("EdgeCallsTest");
        newObject(due);
        connectBegins(due);
        connectOpening(due);
        connectReady(due);
        connectReadyClosed(due);
        connectUp(due);
        connectBroken(due);
        connectSixty(due);
        olderGone(due);
        olderHalfRecord(due);
        olderTimers(due);
        noReset(due);
        updateSends(due);
        updateNextKey(due);
        updateRefusedSide(due);
        updateRefusedNotReady(due);
        updateRefusedClosed(due);
        updateNinetyNine(due);
        updateHundred(due);
        updateOtherWay(due);
        sideRefused(due);
        sideItself(due);
        sideConfirmed(due);
        sideWaits(due);
        sideExpected(due);
        sideNumbers(due);
        sideWithoutUp(due);
        due.end();
    }

    private static void newObject(Due due) {
        due.sentence("no connection, no commands, an empty store");
        for (int seed : new int[] {0, 1, -1, MIN, MAX}) {
            Counted x = new Counted(seed, -seed, seed);
            for (int side = 0; side < 2; side++) {
                for (int what = 0; what <= 10; what++) {
                    due.is("side(" + side + ", " + what + ")", x.side(side, what), what == 3 ? -1 : 0);
                }
                due.is("flying", x.flying(side), 0);
            }
            for (int what = 0; what <= 4; what++) {
                due.is("about(" + what + ")", x.about(what), 0);
            }
            for (int key = 0; key < 16; key++) {
                due.is("stored(" + key + ")", x.stored(key), -1);
            }
            due.is("answer(1, 0)", x.answer(1, 0), -1);
            due.is("the first tick", x.tick(1), 1);
        }
        due.is("NONE", SealedStore.NONE, -1);
    }

    private static void connectBegins(Due due) {
        due.sentence("The client begins a new connection, OPENING: OPEN is sent; .. Answers its number.");
        for (boolean ticket : new boolean[] {false, true}) {
            Play play = new Play(1, 2, 3);
            due.is("connect", play.x.connect(ticket), 1);
            due.is("OPENING", play.is(0), "1 0 -1");
            due.is("number", play.x.side(0, 0), 1);
            due.is("OPEN", play.seen(0, 0), Play.told(1, 0, 0, 0));
            due.is("alone", play.x.flying(0) + play.x.flying(1), 1);
        }
    }

    private static void connectOpening(Due due) {
        due.sentence("connect. Refused (NONE): its connection is OPENING");
        Play play = new Play(1, 2, 3);
        play.x.connect(false);
        play.x.tick(4);
        String before = play.state();
        due.is("connect(false)", play.x.connect(false), -1);
        due.is("connect(true)", play.x.connect(true), -1);
        due.is("all is as before", play.state(), before);
        play.x.tick(1);
        due.is("and its timer", play.x.flying(0), 2);
    }

    private static void connectReady(Due due) {
        due.sentence("connect. Refused (NONE): .. or it is READY and not CLOSED");
        Play play = Play.ready();
        play.x.command(0, 0, 0, 0);
        String before = play.state();
        due.is("connect(false)", play.x.connect(false), -1);
        due.is("connect(true)", play.x.connect(true), -1);
        due.is("all is as before", play.state(), before);
        play.x.close(1);
        due.is("the server is CLOSED, the client not", play.x.connect(false), -1);
    }

    private static void connectReadyClosed(Due due) {
        due.sentence("READY and not CLOSED: CLOSED it is taken");
        Play play = Play.ready();
        play.x.close(0);
        due.is("CLOSED by itself", play.x.connect(false), 2);
        due.is("OPENING, not READY, not CLOSED", play.is(0), "1 0 -1");
        play = Play.ready();
        play.x.close(1);
        play.x.deliver(1);
        due.is("CLOSED by the other", play.x.connect(true), 2);
        play.settle();
        due.is("both READY", play.is(0) + play.is(1), "2 1 -12 1 -1");
    }

    private static void connectUp(Due due) {
        due.sentence("READY and not CLOSED: UP and not READY it is taken");
        Play play = new Play(1, 2, 3);
        play.untilClientHello();
        due.is("UP", play.is(0), "2 0 -1");
        due.is("connect", play.x.connect(false), 2);
        play = new Play(1, 2, 3);
        play.untilServerHello();
        play.x.deliver(1);
        due.is("the client waits for FINISHED", play.x.connect(false), 2);
        play.settle();
        due.is("both READY", play.x.side(0, 2) + play.x.side(1, 2), 2);
    }

    private static void connectBroken(Due due) {
        due.sentence("connect: BROKEN it is taken");
        Play play = Play.ready();
        play.x.update(0);
        play.x.tick(30);
        due.is("BROKEN", play.x.side(0, 1), 3);
        due.is("connect", play.x.connect(true), 2);
        due.is("OPENING", play.is(0), "1 0 -1");
    }

    private static void connectSixty(Due due) {
        due.sentence("connect. Refused (NONE): .. or there were 60.");
        Play play = new Play(1, 2, 3);
        for (int n = 1; n <= 59; n++) {
            due.is("connect", play.x.connect(false), n);
            play.x.tick(30);
        }
        play.loseAll(0);
        due.is("connect", play.x.connect(false), 60);
        play.settle();
        due.is("the sixtieth is READY", play.is(0) + play.is(1), "2 1 -12 1 -1");
        due.is("its number", play.x.side(0, 0) + play.x.side(1, 0), 120);
        play.x.close(0);
        play.settle();
        String before = play.state();
        due.is("connect", play.x.connect(false), -1);
        due.is("connect(true)", play.x.connect(true), -1);
        due.is("all is as before", play.state(), before);
    }

    private static void olderGone(Due due) {
        due.sentence("what was of an older one (streams, timers, what waits; ..) is gone there");
        Play play = Play.ready();
        play.x.command(1, 1, 1, 0);
        for (int i = 0; i < 6; i++) {
            play.x.update(0);
        }
        play.x.update(1);
        play.x.update(1);
        play.x.disturb(1, 0);
        play.x.deliver(1);
        due.is("waits", play.x.side(0, 7), 24);
        play.x.close(0);
        play.x.connect(false);
        for (int what = 5; what <= 10; what++) {
            due.is("side(0, " + what + ")", play.x.side(0, what), 0);
        }
        play.loseAll(0);
        play.loseAll(1);
        play.x.tick(5);
        play.settle();
        due.is("the new one has its own", play.x.side(0, 5), 3);
        due.is("nothing waits", play.x.side(0, 7), 0);
        due.is("READY", play.is(0), "2 1 -1");
    }

    private static void olderHalfRecord(Due due) {
        due.sentence("what was of an older one (streams ..) is gone there: half of a record");
        for (int reader = 0; reader < 2; reader++) {
            Play play = Play.withRoom(1 - reader, 1);
            play.forge(1 - reader, 23, 40);
            play.x.close(0);
            play.loseAll(0);
            play.loseAll(1);
            play.x.connect(false);
            play.settle();
            due.is("both READY", play.is(0) + play.is(1), "2 1 -12 1 -1");
        }
    }

    private static void olderTimers(Due due) {
        due.sentence("what was of an older one (.. timers ..) is gone there");
        Play play = Play.ready();
        play.x.update(0);
        play.x.update(0);
        play.x.tick(4);
        play.x.close(0);
        play.loseAll(0);
        play.x.connect(false);
        play.loseAll(0);
        play.x.tick(4);
        due.is("no segment is sent again", play.x.flying(0), 0);
        play.x.tick(1);
        due.is("OPEN alone", play.x.flying(0), 1);
        due.is("OPEN", play.x.datagram(0, 0, 1), 0);
        play.x.deliver(0);
        play.x.deliver(1);
        play.loseAll(0);
        play.x.tick(4);
        due.is("not by UP either", play.x.flying(0), 0);
        play.x.tick(1);
        due.is("the hello alone", play.x.flying(0), 1);
    }

    private static void noReset(Due due) {
        due.sentence("(.. no RESET is sent)");
        Play play = new Play(1, 2, 3);
        play.untilClientHello();
        play.x.connect(false);
        due.is("the hello of 1 and OPEN", play.x.flying(0), 2);
        due.is("DATA", play.x.datagram(0, 0, 1), 2);
        due.is("OPEN", play.x.datagram(0, 1, 1), 0);
        due.is("the server has 1 still", play.x.side(1, 0) * 10 + play.x.side(1, 1), 12);
    }

    private static void updateSends(Due due) {
        due.sentence("A side sends the byte 24, sealed, inner type 22");
        for (int side = 0; side < 2; side++) {
            Play play = Play.ready();
            due.is("update", play.x.update(side), true);
            due.is("record", play.seen(side, 0), Play.told(1, 2, 2 + side, 0, Reckon.sealed(KEYS.session[side], side, 22, 24)));
            due.is("alone", play.x.flying(0) + play.x.flying(1), 1);
        }
    }

    private static void updateNextKey(Due due) {
        due.sentence("then its way has the next key: true");
        for (int side = 0; side < 2; side++) {
            Play play = Play.ready();
            long key = KEYS.session[side];
            for (int i = 0; i < 3; i++) {
                play.x.update(side);
                key = Keys.next(key);
                due.is("number", play.x.side(side, 9), 0);
            }
            play.x.close(side);
            due.is("the next record", play.seen(side, 3), Play.told(1, 2, 5 + side, 0, Reckon.sealed(key, 0, 21, 0)));
            play.settle();
            due.is("which is read", play.x.side(1 - side, 3), 256);
        }
    }

    private static void updateRefusedSide(Due due) {
        due.sentence("update. Refused as for close: there is no such side");
        Play play = Play.ready();
        String before = play.state();
        for (int side : new int[] {-1, 2, 3, MIN, MAX}) {
            due.is("update(" + side + ")", play.x.update(side), false);
        }
        due.is("all is as before", play.state(), before);
    }

    private static void updateRefusedNotReady(Due due) {
        due.sentence("update. Refused as for close: it is not READY, UP");
        Play play = new Play(1, 2, 3);
        for (int step = 0; step < 5; step++) {
            String before = play.state();
            due.is("update(0) at step " + step, play.x.update(0), false);
            due.is("update(1) at step " + step, play.x.update(1), false);
            due.is("all is as before", play.state(), before);
            if (step == 0) {
                play.x.connect(false);
            } else {
                play.x.deliver(step == 1 || step == 3 ? 0 : 1);
            }
        }
        play.settle();
        play.x.update(0);
        play.x.tick(30);
        due.is("BROKEN", play.x.update(0), false);
    }

    private static void updateRefusedClosed(Due due) {
        due.sentence("update. Refused as for close: .. and not CLOSED");
        for (int side = 0; side < 2; side++) {
            Play play = Play.ready();
            play.x.close(side);
            due.is("CLOSED by itself", play.x.update(side), false);
            due.is("the other may", play.x.update(1 - side), true);
            play.settle();
            due.is("CLOSED by the other", play.x.update(1 - side), false);
            due.is("the ALERT alone", play.x.side(side, 5), 3 + side);
        }
    }

    /** An answer of 11 bytes and eleven updates of 8. */
    private static void updateNinetyNine(Due due) {
        due.sentence("or 100 bytes or more wait on its way (side(.., 7)): 99 are fewer");
        Play play = Play.ready();
        play.x.command(0, 0, 0, 0);
        for (int i = 0; i < 4; i++) {
            play.x.update(1);
        }
        play.x.deliver(0);
        for (int i = 0; i < 11; i++) {
            due.is("update", play.x.update(1), true);
        }
        due.is("wait", play.x.side(1, 7), 99);
        due.is("update at 99", play.x.update(1), true);
        due.is("wait", play.x.side(1, 7), 107);
        due.is("update at 107", play.x.update(1), false);
    }

    /** Two commands, the first of them answered by a forger, and nine updates. */
    private static void updateHundred(Due due) {
        due.sentence("or 100 bytes or more wait on its way (side(.., 7)): 100 are enough");
        Play play = Play.ready();
        for (int i = 0; i < 6; i++) {
            play.x.update(1);
        }
        play.deliverAll(1);
        play.deliverAll(0);
        for (int i = 0; i < 4; i++) {
            play.x.update(0);
        }
        play.x.command(0, 0, 0, 0);
        play.x.command(0, 0, 0, 0);
        play.forge(1, Reckon.sealed(Play.forgeKey(1), 0, 23, 1, 0, 0, 0));
        due.is("two commands wait", play.x.side(0, 7), 28);
        for (int i = 0; i < 9; i++) {
            play.x.update(0);
        }
        due.is("wait", play.x.side(0, 7), 100);
        String before = play.state();
        due.is("update at 100", play.x.update(0), false);
        due.is("all is as before", play.state(), before);
        due.is("close at 100", play.x.close(0), true);
        due.is("wait", play.x.side(0, 7), 108);
    }

    private static void updateOtherWay(Due due) {
        due.sentence("100 bytes or more wait on its way (the other's do not count)");
        Play play = Play.ready();
        for (int i = 0; i < 17; i++) {
            play.x.update(0);
        }
        due.is("wait", play.x.side(0, 7), 104);
        due.is("update(0)", play.x.update(0), false);
        due.is("update(1)", play.x.update(1), true);
    }

    private static void sideRefused(Due due) {
        due.sentence("side. NONE when there is no such side, or what is not 0 .. 10");
        for (Play play : new Play[] {new Play(1, 2, 3), Play.ready()}) {
            for (int what = 0; what <= 10; what++) {
                for (int side : new int[] {-1, 2, MIN, MAX}) {
                    due.is("side(" + side + ", " + what + ")", play.x.side(side, what), -1);
                }
            }
            for (int what : new int[] {-1, 11, 12, MIN, MAX}) {
                due.is("side(0, " + what + ")", play.x.side(0, what), -1);
                due.is("side(1, " + what + ")", play.x.side(1, what), -1);
            }
        }
    }

    private static void sideItself(Due due) {
        due.sentence("what 0: number of its connection, 0 if it had none; 1: state of it; 2: 1 if it is READY, else 0; 3: the code with which it is CLOSED, NONE if it is not; 4: count of draws");
        Play play = new Play(1, 2, 3);
        due.is("none", play.x.side(0, 0) + play.x.side(1, 0), 0);
        play.x.connect(false);
        due.is("the client's", play.x.side(0, 0) * 10 + play.x.side(1, 0), 10);
        play.settle();
        for (int side = 0; side < 2; side++) {
            int[] want = {1, 2, 1, -1, 2};
            for (int what = 0; what < want.length; what++) {
                due.is("side(" + side + ", " + what + ")", play.x.side(side, what), want[what]);
            }
        }
        play.x.close(1);
        due.is("the code", play.x.side(1, 3), 0);
        play.settle();
        due.is("the code that it was told", play.x.side(0, 3), 256);
    }

    private static void sideConfirmed(Due due) {
        due.sentence("5: segments made on its way; 6: of these confirmed (those below the first that is not)");
        Play play = Play.ready();
        for (int i = 0; i < 4; i++) {
            play.x.update(0);
        }
        due.is("made", play.x.side(0, 5), 6);
        due.is("confirmed", play.x.side(0, 6), 2);
        play.x.disturb(0, 1);
        play.x.deliver(0);
        play.x.deliver(1);
        due.is("3 is confirmed, 2 is not", play.x.side(0, 6), 2);
        play.x.disturb(0, 1);
        play.x.disturb(0, 1);
        play.x.deliver(0);
        play.x.deliver(1);
        due.is("2 and 3 are", play.x.side(0, 6), 4);
        due.is("made", play.x.side(0, 5), 6);
    }

    private static void sideWaits(Due due) {
        due.sentence("7: bytes that wait");
        Play play = Play.ready();
        int[] want = {0, 0, 0, 0, 8, 16, 24};
        for (int n : want) {
            play.x.update(1);
            due.is("wait", play.x.side(1, 7), n);
        }
        due.is("on the other way none", play.x.side(0, 7), 0);
        play.x.deliver(1);
        due.is("until it is confirmed", play.x.side(1, 7), 24);
        play.x.deliver(0);
        due.is("wait", play.x.side(1, 7), 8);
    }

    private static void sideExpected(Due due) {
        due.sentence("8: next segment expected");
        Play play = Play.ready();
        for (int i = 0; i < 4; i++) {
            play.x.update(0);
        }
        due.is("expected", play.x.side(1, 8), 2);
        play.x.disturb(0, 1);
        play.x.deliver(0);
        due.is("a gap", play.x.side(1, 8), 2);
        play.x.disturb(0, 1);
        play.x.disturb(0, 1);
        play.x.deliver(0);
        due.is("closed", play.x.side(1, 8), 4);
    }

    private static void sideNumbers(Due due) {
        due.sentence("9: sequence number of its way; 10: that of the other way");
        Play play = Play.ready();
        play.x.command(0, 0, 0, 0);
        due.is("the client's", play.x.side(0, 9) * 10 + play.x.side(0, 10), 11);
        due.is("the server's", play.x.side(1, 9) * 10 + play.x.side(1, 10), 10);
        play.x.deliver(0);
        due.is("the client's", play.x.side(0, 9) * 10 + play.x.side(0, 10), 11);
        due.is("the server's", play.x.side(1, 9) * 10 + play.x.side(1, 10), 21);
    }

    private static void sideWithoutUp(Due due) {
        due.sentence("5 to 10 are 0 without a connection that is UP");
        Play play = Play.ready();
        play.x.command(0, 0, 0, 0);
        for (int i = 0; i < 6; i++) {
            play.x.update(0);
        }
        play.x.tick(30);
        zero(due, play, "BROKEN");
        play.x.connect(false);
        zero(due, play, "OPENING");
        zero(due, new Play(1, 2, 3), "NONE");
        play = Play.ready();
        play.x.close(0);
        due.is("CLOSED and UP", play.x.side(0, 5), 3);
        play.x.connect(false);
        zero(due, play, "OPENING behind CLOSED");
    }

    private static void zero(Due due, Play play, String state) {
        for (int what = 5; what <= 10; what++) {
            due.is(state + ": side(0, " + what + ")", play.x.side(0, what), 0);
        }
    }
}

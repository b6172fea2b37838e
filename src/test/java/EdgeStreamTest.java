import java.util.function.Supplier;

/** The sentences of CONNECTION and of what arrives (OPEN to RESET), each by itself. */
public final class EdgeStreamTest {
    private static final int MAX = Integer.MAX_VALUE;

    public static void main(String[] args) {
        Due due = new Due("EdgeStreamTest");
        states(due);
        numbered(due);
        segmentsFromZero(due);
        fewerThanFour(due);
        fromFirstToLast(due);
        upToSixteen(due);
        oneByte(due);
        behindEachRecord(due);
        openAbove(due);
        openSame(due);
        openSameBroken(due);
        openBelow(due);
        openHighest(due);
        openedOpening(due);
        openedElse(due);
        dataNext(due);
        dataThreeAbove(due);
        dataFourAbove(due);
        dataBelow(due);
        dataFirstThatCame(due);
        dataWithoutGap(due);
        gotThenReads(due);
        dataOfAnother(due);
        dataNotUp(due);
        gotBits(due);
        gotAllMade(due);
        gotAboveMade(due);
        gotBitsMade(due);
        gotBitsNotMade(due);
        gotOld(due);
        gotThenSends(due);
        gotOfAnother(due);
        resetUp(due);
        resetOpening(due);
        resetOfAnother(due);
        resetBroken(due);
        allElse(due);
        due.end();
    }

    private static Play updates(int side, int count) {
        Play play = Play.ready();
        for (int i = 0; i < count; i++) {
            play.x.update(side);
        }
        return play;
    }

    /** Holds datagrams back until one of this number is the first. */
    private static void bringFirst(Play play, int direction, int number) {
        for (int i = 0; i < 12 && play.x.datagram(direction, 0, 2) != number; i++) {
            play.x.disturb(direction, 1);
        }
    }

    private static void states(Due due) {
        due.sentence("A CONNECTION of a side has a number and a state: 0 NONE, 1 OPENING (client), 2 UP, 3 BROKEN.");
        Play play = new Play(1, 2, 3);
        due.is("NONE", play.x.side(0, 1) + play.x.side(1, 1), 0);
        due.is("no number", play.x.side(0, 0) + play.x.side(1, 0), 0);
        play.x.connect(false);
        due.is("OPENING", play.x.side(0, 1), 1);
        due.is("the server's is NONE", play.x.side(1, 1), 0);
        play.x.deliver(0);
        due.is("the server's is UP", play.x.side(1, 1), 2);
        play.x.deliver(1);
        due.is("UP", play.x.side(0, 1), 2);
        play.x.tick(30);
        due.is("BROKEN", play.x.side(0, 1), 3);
        due.is("its number stays", play.x.side(0, 0), 1);
    }

    private static void numbered(Due due) {
        due.sentence("The client's connections are numbered 1, 2, .. (at most 60).");
        Play play = new Play(1, 2, 3);
        for (int n = 1; n <= 60; n++) {
            due.is("connect", play.x.connect(false), n);
            due.is("its number", play.x.side(0, 0), n);
            play.x.tick(30);
        }
        play.loseAll(0);
        due.is("BROKEN", play.x.side(0, 1), 3);
        due.is("connect", play.x.connect(false), -1);
        due.is("number", play.x.side(0, 0), 60);
        due.is("BROKEN", play.x.side(0, 1), 3);
        due.is("nothing is sent", play.x.flying(0), 0);
    }

    private static void segmentsFromZero(Due due) {
        due.sentence("Each way of a connection is a STREAM of bytes in SEGMENTS 0, 1, .. .");
        Play play = new Play(1, 2, 3);
        play.untilClientHello();
        due.is("the client's first", play.x.datagram(0, 0, 2), 0);
        play.x.deliver(0);
        due.is("the server's first", play.x.datagram(1, 1, 2), 0);
        due.is("the server's second", play.x.datagram(1, 2, 2), 1);
        play.settle();
        play.x.update(0);
        due.is("the client's third", play.x.datagram(0, 0, 2), 2);
        play.x.close(0);
        play.settle();
        play.x.connect(false);
        play.x.deliver(0);
        play.x.deliver(1);
        due.is("the first of a new connection", play.x.datagram(0, 0, 2), 0);
        play.x.deliver(0);
        due.is("the server's first of it", play.x.datagram(1, 1, 2), 0);
    }

    private static void fewerThanFour(Due due) {
        due.sentence("whenever bytes wait and fewer than 4 segments are out");
        for (int side = 0; side < 2; side++) {
            Play play = Play.ready();
            int made = 2 + side;
            for (int n = 1; n <= 4; n++) {
                play.x.update(side);
                due.is("out are " + n, play.x.side(side, 5), made + n);
                due.is("nothing waits", play.x.side(side, 7), 0);
            }
            play.x.update(side);
            due.is("the fifth is not made", play.x.side(side, 5), made + 4);
            due.is("it waits", play.x.side(side, 7), 8);
            due.is("flying", play.x.flying(side), 4);
        }
    }

    private static void fromFirstToLast(Due due) {
        due.sentence("(those sent and not CONFIRMED, counted from the first not confirmed to the last sent)");
        Play play = updates(0, 5);
        for (int number = 3; number <= 5; number++) {
            bringFirst(play, 0, number);
            play.x.deliver(0);
            play.x.deliver(1);
            due.is("nothing is made while 2 is not confirmed", play.x.side(0, 5), 6);
            due.is("waits", play.x.side(0, 7), 8);
        }
        play.x.deliver(0);
        play.x.deliver(1);
        due.is("all confirmed", play.x.side(0, 6), 6);
        due.is("made", play.x.side(0, 5), 7);
        due.is("waits", play.x.side(0, 7), 0);
    }

    private static void upToSixteen(Due due) {
        due.sentence("the next segment of up to 16 of them is made and sent");
        int[] waits = {8, 16, 24, 32};
        int[][] lengths = {{8}, {16}, {16, 8}, {16, 16}};
        for (int i = 0; i < waits.length; i++) {
            Play play = updates(0, 4 + waits[i] / 8);
            due.is("waits", play.x.side(0, 7), waits[i]);
            play.deliverAll(0);
            play.deliverAll(1);
            due.is("segments for " + waits[i], play.x.flying(0), lengths[i].length);
            for (int k = 0; k < lengths[i].length; k++) {
                due.is("length of " + k, play.x.datagram(0, k, 4), lengths[i][k]);
            }
            due.is("waits", play.x.side(0, 7), 0);
        }
        Play play = updates(0, 4);
        play.x.command(0, 0, 0, 0);
        play.x.update(0);
        play.x.deliver(0);
        play.x.deliver(1);
        due.is("16 of 22", play.x.datagram(0, 3, 4), 16);
        due.is("6 wait", play.x.side(0, 7), 6);
        play.x.deliver(0);
        play.x.deliver(1);
        due.is("the 6", play.x.datagram(0, 3, 4), 6);
        play.settle();
        due.is("they were in order", play.is(1), "2 1 -1");
        due.is("carried out", play.x.about(1), 1);
    }

    /**
     * Three answers of 11 bytes wait at the server, whose window is full: a forger answers the first
     * two commands before the server's answers can come.
     */
    private static Play threeAnswersWait() {
        Play play = Play.ready();
        for (int i = 0; i < 3; i++) {
            play.x.command(0, 0, 0, 0);
        }
        for (int i = 0; i < 12; i++) {
            play.x.update(1);
        }
        play.deliverAll(1);
        play.deliverAll(0);
        play.x.deliver(1);
        long key = Play.forgeKey(1);
        play.forge(1, Reckon.join(Reckon.sealed(key, 0, 23, 1, 0, 0, 0), Reckon.sealed(key, 1, 23, 2, 0, 0, 0)));
        for (int i = 0; i < 2; i++) {
            play.x.disturb(0, 0);
            play.x.deliver(0);
        }
        return play;
    }

    private static void oneByte(Due due) {
        due.sentence("whenever bytes wait .. the next segment of up to 16 of them is made and sent (of 1)");
        Play play = threeAnswersWait();
        due.is("wait", play.x.side(1, 7), 33);
        play.x.deliver(1);
        play.loseAll(1);
        play.x.deliver(0);
        due.is("wait", play.x.side(1, 7), 0);
        due.is("three segments", play.x.flying(1), 3);
        due.is("lengths", play.x.datagram(1, 0, 4) * 10000 + play.x.datagram(1, 1, 4) * 100 + play.x.datagram(1, 2, 4), 161601);
        int last = play.x.datagram(1, 2, 2);
        bringFirst(play, 1, last);
        play.x.deliver(1);
        due.is("the one byte is kept", play.seen(0, 0), Play.told(1, 3, last - 3, 4));
        play.deliverAll(1);
        play.deliverAll(0);
        play.x.tick(5);
        play.settle();
        due.is("and taken", play.x.side(0, 8), last + 1);
    }

    private static void behindEachRecord(Due due) {
        due.sentence("(looked at behind each whole record that is put into the stream)");
        Play play = new Play(1, 2, 3);
        play.x.command(1, 1, 1, 0);
        play.untilServerHello();
        due.is("SERVER HELLO by itself", play.x.datagram(1, 0, 4), 11);
        due.is("FINISHED by itself", play.x.datagram(1, 1, 4), 12);
        play.deliverAll(1);
        due.is("the client's FINISHED by itself", play.x.datagram(0, 2, 4), 12);
        due.is("the command by itself", play.x.datagram(0, 3, 4), 14);
    }

    private static void openAbove(Due due) {
        due.sentence("with a number above that of its connection: its connection is this one, UP, all as at first");
        Play play = updates(1, 6);
        play.x.update(0);
        play.x.update(0);
        play.x.disturb(0, 0);
        play.x.deliver(0);
        play.x.close(1);
        play.x.close(0);
        play.loseAll(0);
        play.loseAll(1);
        due.is("the server before", play.is(1), "2 1 0");
        play.x.connect(false);
        play.x.deliver(0);
        due.is("number", play.x.side(1, 0), 2);
        due.is("UP, not READY, not CLOSED", play.is(1), "2 0 -1");
        for (int what = 5; what <= 10; what++) {
            due.is("side(1, " + what + ")", play.x.side(1, what), 0);
        }
        play.x.deliver(1);
        play.x.deliver(0);
        due.is("a plain hello is read", play.x.side(1, 5), 2);
        due.is("no segment is kept", play.x.datagram(1, 0, 3), 0);
        play.x.tick(30);
        due.is("timers are those of the new one", play.x.side(1, 1), 3);
    }

    private static void openSame(Due due) {
        due.sentence("in any case, if it is UP with this number, OPENED is sent");
        Play play = new Play(1, 2, 3);
        play.x.connect(false);
        play.x.disturb(0, 2);
        play.x.disturb(0, 2);
        play.x.deliver(0);
        play.x.deliver(1);
        play.x.disturb(0, 1);
        play.x.disturb(0, 1);
        play.x.deliver(0);
        due.is("hello was read", play.x.side(1, 5), 2);
        due.is("OPEN again", play.x.deliver(0), 0);
        due.is("OPENED", play.seen(1, 3), Play.told(1, 1, 0, 0));
        due.is("nothing begins anew", play.x.side(1, 5) + play.x.side(1, 8), 3);
        play.x.disturb(0, 2);
        due.is("OPEN again", play.x.deliver(0), 0);
        play.settle();
        due.is("READY", play.x.side(0, 2) + play.x.side(1, 2), 2);
    }

    private static void openSameBroken(Due due) {
        due.sentence("if it is UP with this number: a BROKEN one sends no OPENED");
        Play play = new Play(1, 2, 3);
        play.x.connect(false);
        play.x.disturb(0, 2);
        play.x.deliver(0);
        play.x.deliver(1);
        play.x.disturb(0, 1);
        play.x.deliver(0);
        play.loseAll(1);
        play.x.tick(30);
        due.is("the server's is BROKEN", play.x.side(1, 1), 3);
        play.loseAll(1);
        due.is("OPEN 1 again", play.x.datagram(0, 0, 0) * 10 + play.x.deliver(0), 10);
        due.is("no OPENED", play.x.flying(1), 0);
        due.is("BROKEN still", play.x.side(1, 1), 3);
    }

    private static void openBelow(Due due) {
        due.sentence("OPEN with a number below that of the server's connection does nothing");
        Play play = new Play(1, 2, 3);
        play.x.connect(false);
        play.x.tick(30);
        play.x.connect(false);
        for (int i = 0; i < 6; i++) {
            play.x.disturb(0, 1);
        }
        due.is("OPEN 2 is first", play.x.datagram(0, 0, 0), 2);
        play.x.deliver(0);
        due.is("number", play.x.side(1, 0), 2);
        due.is("OPENED 2", play.x.flying(1), 1);
        due.is("OPEN 1", play.x.datagram(0, 0, 0), 1);
        play.x.deliver(0);
        due.is("number stays", play.x.side(1, 0), 2);
        due.is("no OPENED", play.x.flying(1), 1);
    }

    private static Play opening() {
        Play play = new Play(1, 2, 3);
        play.x.connect(false);
        return play;
    }

    private static Play opened() {
        Play play = opening();
        play.x.deliver(0);
        return play;
    }

    private static void openHighest(Due due) {
        due.sentence("DATAGRAMS have a connection (1 .. 255): OPEN with the highest");
        Play play = Inside.changed(EdgeStreamTest::opening, 0, Inside.CONNECTION, 255);
        if (play == null) {
            due.is("left out", true, true);
            return;
        }
        due.is("OPEN 255", play.x.deliver(0), 0);
        due.is("number", play.x.side(1, 0), 255);
        due.is("OPENED 255", play.x.datagram(1, 0, 0), 255);
        play.x.deliver(1);
        due.is("which is not the client's", play.x.side(0, 1), 1);
    }

    private static void openedOpening(Due due) {
        due.sentence("OPENED of the client's connection: OPENING becomes UP, the timer is 0, and the handshake begins.");
        Play play = new Play(1, 2, 3);
        play.x.connect(false);
        play.x.tick(4);
        play.x.deliver(0);
        play.x.deliver(1);
        due.is("UP", play.is(0), "2 0 -1");
        due.is("the hello alone", play.x.flying(0), 1);
        play.x.tick(4);
        due.is("no OPEN, and the hello's timer is 5", play.x.flying(0), 1);
        play.x.tick(1);
        due.is("the hello again", play.x.datagram(0, 1, 1), 2);
        due.is("two", play.x.flying(0), 2);
    }

    private static void openedElse(Due due) {
        due.sentence("OPENED of the client's connection: OPENING becomes UP (UP, BROKEN and another number: nothing)");
        Play play = opened();
        play.x.disturb(1, 2);
        play.x.disturb(1, 2);
        play.x.deliver(1);
        String before = play.seen(0, 0);
        play.x.deliver(1);
        due.is("UP: no second hello", play.x.flying(0), 1);
        due.is("draws", play.x.side(0, 4), 2);
        due.is("the first is there", play.seen(0, 0), before);
        play.x.tick(30);
        play.x.deliver(1);
        due.is("BROKEN stays", play.x.side(0, 1), 3);
        play = opened();
        play.x.tick(30);
        due.is("connect", play.x.connect(false), 2);
        due.is("OPENED of 1", play.x.datagram(1, 0, 0), 1);
        play.x.deliver(1);
        due.is("OPENING stays", play.x.side(0, 1), 1);
        due.is("draws", play.x.side(0, 4), 0);
    }

    private static void dataNext(Due due) {
        due.sentence("a segment of a number from the next expected");
        Play play = updates(0, 1);
        due.is("expected", play.x.side(1, 8), 2);
        due.is("its number", play.x.datagram(0, 0, 2), 2);
        play.x.deliver(0);
        due.is("expected", play.x.side(1, 8), 3);
        due.is("GOT", play.seen(1, 0), Play.told(1, 3, 3, 0));
        due.is("read", play.x.side(1, 10), 0);
    }

    private static Play lastOfFour() {
        Play play = updates(0, 4);
        for (int i = 0; i < 3; i++) {
            play.x.disturb(0, 1);
        }
        return play;
    }

    private static void dataThreeAbove(Due due) {
        due.sentence("to 3 above it is kept");
        Play play = lastOfFour();
        due.is("3 above", play.x.datagram(0, 0, 2) - play.x.side(1, 8), 3);
        play.x.deliver(0);
        due.is("GOT tells it", play.seen(1, 0), Play.told(1, 3, 2, 4));
        due.is("expected", play.x.side(1, 8), 2);
        for (int i = 0; i < 3; i++) {
            play.x.deliver(0);
        }
        due.is("all four are taken", play.x.side(1, 8), 6);
        due.is("and read", play.is(1), "2 1 -1");
    }

    private static void dataFourAbove(Due due) {
        due.sentence("a number below the next expected or more than 3 above: GOT alone is sent (above)");
        for (int number : new int[] {6, 7, 9, 10, 1000, MAX}) {
            Play play = Inside.changed(EdgeStreamTest::lastOfFour, 0, Inside.NUMBER, number);
            if (play == null) {
                due.is("left out", true, true);
                return;
            }
            play.x.deliver(0);
            due.is("GOT for " + number, play.seen(1, 0), Play.told(1, 3, 2, 0));
            due.is("GOT alone", play.x.flying(1), 1);
            for (int i = 0; i < 3; i++) {
                play.x.deliver(0);
            }
            due.is("it was not kept", play.x.side(1, 8), 5);
            due.is("GOT of the others", play.seen(1, 3), Play.told(1, 3, 5, 0));
            due.is("not failed", play.is(1), "2 1 -1");
        }
    }

    private static void dataBelow(Due due) {
        due.sentence("a number below the next expected or more than 3 above: GOT alone is sent (below)");
        for (int behind = 1; behind <= 4; behind++) {
            Play play = updates(0, 4);
            play.x.disturb(0, 2);
            for (int i = 0; i < behind; i++) {
                play.x.deliver(0);
            }
            bringFirst(play, 0, 2);
            play.loseAll(1);
            String before = play.is(1) + play.x.side(1, 8) + play.x.side(1, 10);
            play.x.deliver(0);
            due.is("GOT of one " + behind + " below", play.seen(1, 0), Play.told(1, 3, 2 + behind, 0));
            due.is("GOT alone", play.x.flying(1), 1);
            due.is("nothing is taken", play.is(1) + play.x.side(1, 8) + play.x.side(1, 10), before);
        }
        Play play = lastOfFour();
        play.x.deliver(0);
        play.x.disturb(0, 2);
        play.x.deliver(0);
        bringFirst(play, 0, 2);
        play.loseAll(1);
        play.x.deliver(0);
        due.is("its bits tell what is kept", play.seen(1, 0), Play.told(1, 3, 3, 2));
    }

    private static void dataFirstThatCame(Due due) {
        due.sentence("(the first that came with that number)");
        for (int altered = 0; altered < 2; altered++) {
            Play play = updates(0, 2);
            play.x.disturb(0, 1);
            play.x.disturb(0, 2);
            if (altered == 0) {
                play.x.alter(0, 4, 1);
            }
            play.x.deliver(0);
            play.x.disturb(0, 1);
            if (altered == 1) {
                play.x.alter(0, 4, 1);
            }
            play.x.deliver(0);
            due.is("GOT tells one", play.seen(1, 1), Play.told(1, 3, 2, 1));
            play.x.deliver(0);
            due.is("expected", play.x.side(1, 8), 4);
            due.is(altered == 0 ? "the altered was first" : "the altered was second", play.x.side(1, 3), altered == 0 ? 20 : -1);
        }
    }

    private static void dataWithoutGap(Due due) {
        due.sentence("all from the next expected on without a gap are taken into the stream, in order, GOT is sent");
        int[][] orders = {{3, 2}, {4, 2}, {3, 4, 2}, {4, 3, 2}, {3, 5, 2}, {5, 4, 3, 2}};
        int[] expected = {4, 3, 5, 5, 4, 6};
        int[] bits = {0, 1, 0, 0, 1, 0};
        for (int i = 0; i < orders.length; i++) {
            Play play = updates(0, 4);
            for (int number : orders[i]) {
                bringFirst(play, 0, number);
                play.x.deliver(0);
            }
            due.is("expected " + i, play.x.side(1, 8), expected[i]);
            due.is("one GOT for each that came", play.x.flying(1), orders[i].length);
            due.is("the last GOT " + i, play.seen(1, orders[i].length - 1), Play.told(1, 3, expected[i], bits[i]));
            due.is("read in order", play.is(1), "2 1 -1");
        }
    }

    private static void gotThenReads(Due due) {
        due.sentence("GOT is sent, and then the side reads");
        Play play = new Play(1, 2, 3);
        play.untilClientHello();
        play.x.deliver(0);
        due.is("GOT first", play.x.datagram(1, 0, 1), 3);
        due.is("then what it answers", play.x.datagram(1, 1, 1), 2);
        play.x.deliver(1);
        play.x.disturb(1, 1);
        play.x.deliver(1);
        play.x.deliver(1);
        due.is("GOT of the gap", play.seen(0, 0), Play.told(1, 3, 0, 1));
        due.is("GOT of both", play.seen(0, 1), Play.told(1, 3, 2, 0));
        due.is("then FINISHED", play.x.datagram(0, 2, 1), 2);
    }

    private static void dataOfAnother(Due due) {
        due.sentence("DATA, UP, of the connection (of another: nothing)");
        Play play = updates(1, 1);
        play.x.update(0);
        play.x.close(0);
        play.x.connect(false);
        due.is("DATA of 1 at the client", play.x.deliver(1), 2);
        due.is("no GOT", play.x.flying(0), 3);
        play.x.disturb(0, 1);
        play.x.disturb(0, 1);
        play.x.deliver(0);
        due.is("the server has 2", play.x.side(1, 0), 2);
        due.is("DATA of 1 at the server", play.x.deliver(0), 2);
        due.is("no GOT", play.x.flying(1), 1);
        due.is("expected", play.x.side(1, 8), 0);
    }

    private static void dataNotUp(Due due) {
        due.sentence("DATA, UP (BROKEN: nothing)");
        Play play = updates(1, 1);
        play.x.disturb(1, 2);
        play.x.update(0);
        play.x.disturb(0, 1);
        play.x.tick(29);
        play.loseAll(0);
        play.x.tick(1);
        due.is("both are BROKEN", play.x.side(0, 1) + play.x.side(1, 1), 6);
        play.loseAll(0);
        due.is("DATA", play.x.deliver(1), 2);
        due.is("no GOT", play.x.flying(0), 0);
        due.is("BROKEN", play.is(0), "3 0 -1");
        due.is("nothing expected", play.x.side(0, 8), 0);
    }

    private static void gotBits(Due due) {
        due.sentence("GOT (number: the next segment that is expected; bits: bit i says that number + 1 + i came as well, i 0 .. 2)");
        for (int bits = 0; bits < 8; bits++) {
            Play play = updates(0, 4);
            for (int i = 0; i < 3; i++) {
                if ((bits >> i & 1) == 1) {
                    bringFirst(play, 0, 3 + i);
                    play.x.deliver(0);
                }
            }
            play.x.update(0);
            int last = play.x.flying(1) - 1;
            due.is("GOT of bits " + bits, last < 0 ? "" : play.seen(1, last), bits == 0 ? "" : Play.told(1, 3, 2, bits));
        }
        Play play = updates(0, 1);
        play.x.deliver(0);
        due.is("no bits", play.seen(1, 0), Play.told(1, 3, 3, 0));
    }

    private static void gotAllMade(Due due) {
        due.sentence("nothing if its number is above that of the segments made; else all segments below it .. are confirmed");
        Play play = updates(0, 3);
        play.deliverAll(0);
        play.x.disturb(1, 0);
        play.x.disturb(1, 0);
        due.is("a number as that of the segments made", play.x.datagram(1, 0, 2), play.x.side(0, 5));
        play.x.deliver(1);
        due.is("all confirmed", play.x.side(0, 6), 5);
        play.x.tick(30);
        due.is("nothing is sent again", play.x.flying(0), 0);
        due.is("UP", play.x.side(0, 1), 2);
        play = updates(0, 3);
        play.x.deliver(0);
        play.x.deliver(0);
        play.x.disturb(1, 0);
        play.loseAll(0);
        play.x.deliver(1);
        due.is("those below 4", play.x.side(0, 6), 4);
        play.x.tick(5);
        due.is("and not 4", play.x.flying(0), 1);
        due.is("which is sent again", play.x.datagram(0, 0, 2), 4);
    }

    /** The segments 2 and 3 are out, and a GOT of number 3 is on its way. */
    private static Play gotOfOne() {
        Play play = updates(0, 2);
        play.x.deliver(0);
        play.loseAll(0);
        return play;
    }

    private static void gotAboveMade(Due due) {
        due.sentence("nothing if its number is above that of the segments made");
        for (int number : new int[] {5, 6, 255, MAX}) {
            Play play = Inside.changed(EdgeStreamTest::gotOfOne, 1, Inside.NUMBER, number);
            if (play == null) {
                due.is("left out", true, true);
                return;
            }
            due.is("above that of the segments made", play.x.datagram(1, 0, 2) > play.x.side(0, 5), true);
            due.is("GOT", play.x.deliver(1), 3);
            due.is("nothing is confirmed by " + number, play.x.side(0, 6), 2);
            due.is("made", play.x.side(0, 5), 4);
            play.x.tick(5);
            due.is("both are sent again", play.x.flying(0), 2);
            play.settle();
            due.is("all goes on", play.x.side(0, 6), 4);
        }
        Play play = Inside.changed(EdgeStreamTest::gotOfOne, 1, Inside.NUMBER, 4);
        play.x.deliver(1);
        due.is("4 is not above", play.x.side(0, 6), 4);
    }

    private static void gotBitsMade(Due due) {
        due.sentence("and those of the bits that were made, are confirmed");
        for (int number = 3; number <= 5; number++) {
            Play play = updates(0, 4);
            bringFirst(play, 0, number);
            play.x.deliver(0);
            play.loseAll(0);
            play.x.deliver(1);
            due.is("below the first that is not", play.x.side(0, 6), 2);
            play.x.tick(5);
            due.is("three are sent again", play.x.flying(0), 3);
            for (int k = 0; k < 3; k++) {
                due.is("not " + number, play.x.datagram(0, k, 2), 2 + k < number ? 2 + k : 3 + k);
            }
            play.x.deliver(0);
            play.loseAll(0);
            play.x.deliver(1);
            due.is("they count when the gap closes", play.x.side(0, 6), number == 3 ? 4 : 3);
        }
    }

    private static void gotBitsNotMade(Due due) {
        due.sentence("those of the bits that were made (not those that were not)");
        Supplier<Play> scene = () -> {
            Play play = updates(0, 2);
            play.x.disturb(0, 1);
            play.x.deliver(0);
            play.loseAll(0);
            return play;
        };
        Play play = Inside.changed(scene, 1, Inside.BITS, 7);
        if (play == null) {
            due.is("left out", true, true);
            return;
        }
        due.is("GOT", play.seen(1, 0), Play.told(1, 3, 2, 7));
        play.x.deliver(1);
        due.is("2 is not confirmed", play.x.side(0, 6), 2);
        play.x.update(0);
        play.x.update(0);
        play.loseAll(0);
        play.x.tick(5);
        due.is("2, 4 and 5 are sent again", play.x.flying(0), 3);
        due.is("first", play.x.datagram(0, 0, 2), 2);
        due.is("second", play.x.datagram(0, 1, 2), 4);
        due.is("third", play.x.datagram(0, 2, 2), 5);
    }

    private static void gotOld(Due due) {
        due.sentence("all segments below it .. are confirmed (one that was confirmed stays so)");
        Play play = updates(0, 4);
        play.x.deliver(0);
        play.x.disturb(0, 1);
        play.x.deliver(0);
        due.is("the later GOT has a bit", play.seen(1, 1), Play.told(1, 3, 3, 1));
        play.x.disturb(1, 1);
        play.x.deliver(1);
        play.x.deliver(1);
        due.is("confirmed", play.x.side(0, 6), 3);
        play.loseAll(0);
        play.x.tick(5);
        due.is("4 stays confirmed", play.x.flying(0), 2);
        due.is("3 again", play.x.datagram(0, 0, 2), 3);
        due.is("5 again", play.x.datagram(0, 1, 2), 5);
    }

    private static void gotThenSends(Due due) {
        due.sentence("then what waits is sent as said");
        for (int freed = 1; freed <= 4; freed++) {
            Play play = updates(0, 12);
            due.is("waits", play.x.side(0, 7), 64);
            for (int i = 0; i < freed; i++) {
                play.x.deliver(0);
            }
            for (int i = 1; i < freed; i++) {
                play.x.disturb(1, 0);
            }
            play.loseAll(0);
            play.x.deliver(1);
            due.is("as many as were freed", play.x.flying(0), freed);
            due.is("waits", play.x.side(0, 7), 64 - 16 * freed);
            due.is("the first of them", play.x.datagram(0, 0, 2), 6);
        }
    }

    private static void gotOfAnother(Due due) {
        due.sentence("GOT, UP, of the connection (of another, or BROKEN: nothing)");
        Play play = new Play(1, 2, 3);
        play.untilClientHello();
        play.x.deliver(0);
        due.is("GOT 1 of 1", play.seen(1, 0), Play.told(1, 3, 1, 0));
        play.x.disturb(1, 2);
        play.x.connect(false);
        play.x.deliver(0);
        while (play.x.datagram(1, 0, 1) != 1) {
            play.x.disturb(1, 1);
        }
        play.x.deliver(1);
        due.is("the hello of 2 is out", play.x.side(0, 5), 1);
        due.is("GOT 1 of 1", play.seen(1, 0), Play.told(1, 3, 1, 0));
        play.x.deliver(1);
        due.is("nothing is confirmed", play.x.side(0, 6), 0);
        play.x.tick(30);
        due.is("BROKEN", play.x.side(0, 1), 3);
        while (play.x.datagram(1, 0, 1) != 3) {
            play.x.disturb(1, 1);
        }
        due.is("GOT", play.x.deliver(1), 3);
        due.is("BROKEN stays", play.x.side(0, 1), 3);
    }

    /** The server's connection 1 broke, and its RESET is all that is on the way. */
    private static Play withReset() {
        Play play = updates(1, 1);
        play.loseAll(1);
        play.x.tick(30);
        while (play.x.flying(1) > 1) {
            play.x.disturb(1, 0);
        }
        return play;
    }

    private static void resetUp(Due due) {
        due.sentence("RESET of the connection (OPENING or UP): it is BROKEN (UP).");
        Play play = withReset();
        due.is("UP and READY", play.is(0), "2 1 -1");
        due.is("RESET", play.x.deliver(1), 4);
        due.is("BROKEN", play.is(0), "3 0 -1");
        due.is("nothing is sent", play.x.flying(0), 0);
        play = updates(0, 1);
        play.loseAll(0);
        play.x.tick(30);
        while (play.x.flying(0) > 1) {
            play.x.disturb(0, 0);
        }
        due.is("RESET", play.x.deliver(0), 4);
        due.is("the server's is BROKEN", play.is(1), "3 0 -1");
        due.is("nothing is sent", play.x.flying(1), 0);
    }

    private static void resetOpening(Due due) {
        due.sentence("RESET of the connection (OPENING or UP): it is BROKEN (OPENING).");
        Play play = Inside.changed(EdgeStreamTest::opened, 1, Inside.KIND, 4);
        if (play == null) {
            due.is("left out", true, true);
            return;
        }
        due.is("OPENING", play.x.side(0, 1), 1);
        due.is("RESET", play.x.deliver(1), 4);
        due.is("BROKEN", play.x.side(0, 1), 3);
        play.x.tick(30);
        due.is("OPEN is not sent again", play.x.flying(0), 0);
        due.is("connect", play.x.connect(false), 2);
    }

    private static void resetOfAnother(Due due) {
        due.sentence("RESET of the connection (of another: nothing)");
        Play play = withReset();
        play.x.close(0);
        play.loseAll(0);
        play.x.connect(false);
        play.x.disturb(1, 2);
        due.is("RESET of 1 while 2 is OPENING", play.x.deliver(1), 4);
        due.is("OPENING", play.x.side(0, 1), 1);
        play.x.deliver(0);
        play.x.disturb(1, 1);
        play.x.deliver(1);
        due.is("RESET of 1 while 2 is UP", play.x.deliver(1), 4);
        due.is("UP", play.x.side(0, 1), 2);
        play.settle();
        due.is("READY", play.x.side(0, 2), 1);
    }

    private static void resetBroken(Due due) {
        due.sentence("RESET of the connection: BROKEN stays BROKEN, and CLOSED stays");
        Play play = withReset();
        play.x.disturb(1, 2);
        play.x.close(0);
        play.x.deliver(1);
        due.is("BROKEN and CLOSED", play.is(0), "3 0 0");
        String before = play.x.side(0, 0) + play.is(0);
        due.is("RESET again", play.x.deliver(1), 4);
        due.is("the same", play.x.side(0, 0) + play.is(0), before);
    }

    private static void allElse(Due due) {
        due.sentence("All else does nothing.");
        for (int kind : new int[] {0, 2, 3}) {
            Play play = Inside.changed(EdgeStreamTest::opened, 1, Inside.KIND, kind);
            if (play == null) {
                due.is("left out", true, true);
                return;
            }
            play.x.deliver(1);
            due.is("kind " + kind + " at a client that is OPENING", play.is(0), "1 0 -1");
            due.is("nothing is sent", play.x.flying(0) + play.x.flying(1), 0);
            due.is("nothing begins", play.x.side(0, 4), 0);
        }
        Play play = Inside.changed(EdgeStreamTest::opening, 0, Inside.KIND, 1);
        play.x.deliver(0);
        due.is("OPENED at the server", play.x.side(1, 0) + play.x.side(1, 1), 0);
        due.is("nothing is sent", play.x.flying(1), 0);
        play = Inside.changed(EdgeStreamTest::opening, 0, Inside.KIND, 4);
        play.x.deliver(0);
        due.is("RESET at a server without a connection", play.x.side(1, 0) + play.x.side(1, 1), 0);
        play = Inside.changed(EdgeStreamTest::gotOfOne, 1, Inside.KIND, 0);
        String before = play.is(0) + play.x.side(0, 6);
        play.x.deliver(1);
        due.is("OPEN at a client that is UP", play.is(0) + play.x.side(0, 6), before);
        due.is("nothing is sent", play.x.flying(0), 0);
    }
}

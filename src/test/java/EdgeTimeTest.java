/** The sentences of A TICK and of promise 6, each by itself. */
public final class EdgeTimeTest {
    private static final int MIN = Integer.MIN_VALUE;
    private static final int MAX = Integer.MAX_VALUE;

    public static void main(String[] args) {
        Due due = new Due("EdgeTimeTest");
        tickRange(due);
        tickCounts(due);
        ticksAsOne(due);
        openingTimer(due);
        openingSixth(due);
        openingAnew(due);
        openingFullLine(due);
        segmentTimer(due);
        segmentTimerAgain(due);
        segmentSixth(due);
        sixthConfirmed(due);
        eachItsOwn(due);
        newInOldPlace(due);
        confirmedTimer(due);
        fromTheFirstOn(due);
        resetThenBroken(due);
        noOtherTimer(due);
        resetLost(due);
        bothSides(due);
        brokenLosesStreams(due);
        brokenLosesRecords(due);
        brokenLosesKeys(due);
        brokenReady(due);
        closedStays(due);
        brokenKeeps(due);
        brokenSendsNothing(due);
        brokenTakesNothing(due);
        noConnection(due);
        due.end();
    }

    private static void ticks(Play play, int count) {
        for (int left = count; left > 0; left -= 50) {
            play.x.tick(Math.min(left, 50));
        }
    }

    private static void tickRange(Due due) {
        due.sentence("tick. Refused (NONE): n is not 1 .. 50.");
        Play play = new Play(1, 2, 3);
        play.x.connect(false);
        String before = play.state();
        for (int n : new int[] {0, -1, -50, 51, 52, MIN, MAX}) {
            due.is("tick(" + n + ")", play.x.tick(n), -1);
        }
        due.is("all is as before", play.state(), before);
        due.is("tick(1)", play.x.tick(1), 1);
        due.is("tick(50)", play.x.tick(50), 51);
    }

    private static void tickCounts(Due due) {
        due.sentence("n ticks; answers how many there have been");
        Counted x = new Counted(1, 2, 3);
        int sum = 0;
        for (int n : new int[] {1, 2, 49, 50, 50, 3, 1}) {
            sum += n;
            due.is("tick(" + n + ")", x.tick(n), sum);
            x.tick(0);
            x.tick(51);
        }
    }

    private static void ticksAsOne(Due due) {
        due.sentence("n ticks");
        Play one = new Play(1, 2, 3);
        Play many = new Play(1, 2, 3);
        for (Play play : new Play[] {one, many}) {
            play.untilServerHello();
        }
        one.x.tick(23);
        for (int i = 0; i < 23; i++) {
            many.x.tick(1);
        }
        due.is("tick(23) and 23 times tick(1)", one.state(), many.state());
        due.is("sent again", one.x.flying(1), 10);
    }

    private static void openingTimer(Due due) {
        due.sentence("if OPENING: its timer goes down by 1 (5 at first); at 0: .. OPEN is sent again, the timer is 5");
        Play play = new Play(1, 2, 3);
        play.x.connect(false);
        for (int tick = 1; tick < 30; tick++) {
            play.x.tick(1);
            due.is("OPEN at tick " + tick, play.x.flying(0), 1 + tick / 5);
        }
        due.is("OPEN", play.seen(0, 5), Play.told(1, 0, 0, 0));
    }

    private static void openingSixth(Due due) {
        due.sentence("if OPENING: .. at 0: if it was sent 6 times, it is BROKEN");
        Play play = new Play(1, 2, 3);
        play.x.connect(false);
        play.x.tick(29);
        due.is("sent 6 times", play.x.flying(0), 6);
        due.is("OPENING", play.x.side(0, 1), 1);
        due.is("connect is refused", play.x.connect(false), -1);
        play.x.tick(1);
        due.is("BROKEN", play.x.side(0, 1), 3);
        due.is("no RESET, no OPEN", play.x.flying(0), 6);
        due.is("connect", play.x.connect(false), 2);
    }

    private static void openingAnew(Due due) {
        due.sentence("its timer goes down by 1 (5 at first): each connection has its own");
        Play play = new Play(1, 2, 3);
        play.x.connect(false);
        play.x.tick(34);
        due.is("connect", play.x.connect(false), 2);
        play.loseAll(0);
        play.x.tick(4);
        due.is("nothing yet", play.x.flying(0), 0);
        play.x.tick(1);
        due.is("OPEN again", play.x.flying(0), 1);
        play.x.tick(24);
        due.is("OPENING", play.x.side(0, 1), 1);
        due.is("OPEN five times again", play.x.flying(0), 5);
        play.x.tick(1);
        due.is("BROKEN", play.x.side(0, 1), 3);
    }

    private static void openingFullLine(Due due) {
        due.sentence("if it was sent 6 times: those that were lost count");
        Play play = new Play(1, 2, 3);
        play.x.connect(false);
        for (int i = 0; i < 11; i++) {
            play.x.disturb(0, 2);
        }
        play.x.tick(29);
        due.is("12 are on the way", play.x.flying(0), 12);
        due.is("OPENING", play.x.side(0, 1), 1);
        play.x.tick(1);
        due.is("BROKEN", play.x.side(0, 1), 3);
    }

    private static void segmentTimer(Due due) {
        due.sentence("Each segment that is not confirmed has a timer (5 when it is sent)");
        for (int side = 0; side < 2; side++) {
            Play play = Play.ready();
            play.x.tick(3);
            play.x.update(side);
            String sent = play.seen(side, 0);
            play.x.tick(4);
            due.is("not yet", play.x.flying(side), 1);
            play.x.tick(1);
            due.is("sent again", play.x.flying(side), 2);
            due.is("the same", play.seen(side, 1), sent);
        }
    }

    private static void segmentTimerAgain(Due due) {
        due.sentence("else it is sent again, tries grow by 1, the timer is 5");
        Play play = Play.ready();
        play.x.update(0);
        for (int tick = 1; tick < 30; tick++) {
            play.x.tick(1);
            due.is("sent at tick " + tick, play.x.flying(0), 1 + tick / 5);
        }
        due.is("UP", play.x.side(0, 1), 2);
    }

    private static void segmentSixth(Due due) {
        due.sentence("one at 0: if it was sent 6 times, RESET is sent (lost if 12 are on the way), then the connection is BROKEN");
        for (int side = 0; side < 2; side++) {
            Play play = Play.ready();
            play.x.update(side);
            play.x.tick(29);
            due.is("six", play.x.flying(side), 6);
            due.is("UP", play.is(side), "2 1 -1");
            play.x.tick(1);
            due.is("BROKEN", play.is(side), "3 0 -1");
            due.is("seven", play.x.flying(side), 7);
            due.is("RESET", play.seen(side, 6), Play.told(1, 4, 0, 0));
        }
    }

    private static void sixthConfirmed(Due due) {
        due.sentence("if it was sent 6 times: but confirmed before its timer is 0");
        Play play = Play.ready();
        play.x.update(0);
        play.x.tick(29);
        play.x.deliver(0);
        play.x.deliver(1);
        due.is("confirmed", play.x.side(0, 6), 3);
        play.x.tick(50);
        due.is("UP", play.is(0), "2 1 -1");
    }

    private static void eachItsOwn(Due due) {
        due.sentence("Each segment that is not confirmed has a timer .. and TRIES");
        Play play = Play.ready();
        for (int i = 0; i < 4; i++) {
            play.x.update(0);
            play.x.tick(1);
        }
        play.loseAll(0);
        for (int i = 0; i < 4; i++) {
            play.x.tick(1);
            due.is("one at each tick", play.x.flying(0), i + 1);
            due.is("its number", play.x.datagram(0, i, 2), 2 + i);
        }
        play.x.tick(1);
        due.is("none", play.x.flying(0), 4);
        play.loseAll(0);
        play.x.tick(20);
        due.is("UP", play.x.side(0, 1), 2);
        play.x.tick(1);
        due.is("the first was sent 6 times", play.x.side(0, 1), 3);
    }

    /** Segment 6 lies where segment 2 lay, if places are used again. */
    private static void newInOldPlace(Due due) {
        due.sentence("TRIES (1)");
        Play play = Play.ready();
        for (int number = 2; number <= 5; number++) {
            play.x.update(0);
            play.x.tick(25);
            bringLastHome(play);
            due.is("confirmed", play.x.side(0, 6), number + 1);
        }
        play.x.update(0);
        due.is("number", play.x.datagram(0, 0, 2), 6);
        play.x.tick(29);
        due.is("sent six times", play.x.flying(0), 6);
        due.is("UP", play.x.side(0, 1), 2);
        play.x.tick(1);
        due.is("BROKEN", play.x.side(0, 1), 3);
    }

    private static void bringLastHome(Play play) {
        play.x.deliver(0);
        play.loseAll(0);
        play.deliverAll(1);
    }

    private static void confirmedTimer(Due due) {
        due.sentence("the timers of its segments not confirmed go down by 1");
        Play play = Play.ready();
        play.x.update(0);
        play.x.update(0);
        play.x.update(0);
        play.x.disturb(0, 1);
        play.x.deliver(0);
        play.x.deliver(1);
        play.loseAll(0);
        play.x.tick(29);
        due.is("2 and 4 five times, 3 never", play.x.flying(0), 10);
        for (int k = 0; k < 10; k++) {
            due.is("number", play.x.datagram(0, k, 2), k % 2 == 0 ? 2 : 4);
        }
        due.is("UP", play.x.side(0, 1), 2);
    }

    private static void fromTheFirstOn(Due due) {
        due.sentence("go down by 1, from the first on");
        Play play = Play.ready();
        for (int i = 0; i < 4; i++) {
            play.x.update(1);
        }
        play.loseAll(1);
        play.x.tick(5);
        due.is("four", play.x.flying(1), 4);
        for (int k = 0; k < 4; k++) {
            due.is("number", play.x.datagram(1, k, 2), 3 + k);
        }
        play.x.tick(5);
        for (int k = 4; k < 8; k++) {
            due.is("number", play.x.datagram(1, k, 2), k - 1);
        }
    }

    private static void resetThenBroken(Due due) {
        due.sentence("RESET is sent (lost if 12 are on the way), then the connection is BROKEN");
        Play play = Play.ready();
        play.x.close(0);
        play.settle();
        play.x.connect(false);
        play.settle();
        play.x.update(0);
        play.x.tick(29);
        play.loseAll(0);
        play.x.tick(1);
        due.is("RESET has its number", play.seen(0, 0), Play.told(2, 4, 0, 0));
        due.is("alone", play.x.flying(0), 1);
        due.is("BROKEN", play.x.side(0, 1), 3);
        due.is("RESET arrives", play.x.deliver(0), 4);
        due.is("the server's is BROKEN", play.x.side(1, 1), 3);
    }

    private static void noOtherTimer(Due due) {
        due.sentence("(no other timer goes on)");
        Play play = Play.ready();
        play.x.update(0);
        play.x.tick(5);
        play.x.update(0);
        play.x.update(0);
        play.x.tick(24);
        play.loseAll(0);
        due.is("UP", play.x.side(0, 1), 2);
        play.x.tick(1);
        due.is("RESET and nothing else", play.x.flying(0), 1);
        due.is("RESET", play.x.datagram(0, 0, 1), 4);
        due.is("BROKEN", play.x.side(0, 1), 3);
        play.x.tick(50);
        due.is("nothing behind it", play.x.flying(0), 1);
    }

    private static void resetLost(Due due) {
        due.sentence("RESET is sent (lost if 12 are on the way)");
        for (int side = 0; side < 2; side++) {
            for (int room = 0; room <= 1; room++) {
                Play play = Play.ready();
                play.x.update(side);
                play.x.tick(29);
                while (play.x.flying(side) < 12 - room) {
                    play.x.disturb(side, 2);
                }
                play.x.tick(1);
                due.is("flying", play.x.flying(side), 12);
                due.is("the last, room " + room, play.x.datagram(side, 11, 1), room == 1 ? 4 : 2);
                due.is("BROKEN", play.x.side(side, 1), 3);
            }
        }
    }

    private static void bothSides(Due due) {
        due.sentence("A TICK: for the client, then the server");
        Play play = Play.ready();
        play.x.update(0);
        play.x.update(1);
        play.x.tick(29);
        due.is("both sent six times", play.x.flying(0) + play.x.flying(1), 12);
        play.x.tick(1);
        due.is("the client's", play.is(0), "3 0 -1");
        due.is("the server's", play.is(1), "3 0 -1");
        due.is("two RESETs", play.x.datagram(0, 6, 1) + play.x.datagram(1, 6, 1), 8);
    }

    /** The client is READY with a command out, bytes that wait and half of a record; then its connection breaks. */
    private static Play broken() {
        Play play = Play.ready();
        play.x.command(1, 1, 1, 0);
        for (int i = 0; i < 5; i++) {
            play.x.update(0);
        }
        play.x.update(1);
        play.x.update(1);
        play.x.disturb(1, 0);
        play.x.deliver(1);
        play.loseAll(0);
        if (play.x.side(0, 7) != 16 || play.x.about(4) != 1) {
            throw new IllegalStateException("the scene is not as it should be");
        }
        play.x.tick(30);
        return play;
    }

    private static void brokenLosesStreams(Due due) {
        due.sentence("A connection that is BROKEN loses all streams, keys and records");
        Play play = broken();
        due.is("BROKEN", play.x.side(0, 1), 3);
        for (int what = 5; what <= 10; what++) {
            due.is("side(0, " + what + ")", play.x.side(0, what), 0);
        }
        play.loseAll(0);
        play.loseAll(1);
        play.x.connect(false);
        play.handshake();
        due.is("a new one has its own stream", play.x.side(0, 5), 3);
        due.is("and reads it from its beginning", play.is(0), "2 1 -1");
        due.is("nothing waits", play.x.side(0, 7), 0);
    }

    /** Half of a record was taken: what comes on the next connection does not stand behind it. */
    private static void brokenLosesRecords(Due due) {
        due.sentence("A connection that is BROKEN loses .. records");
        for (int reader = 0; reader < 2; reader++) {
            Play play = Play.withRoom(1 - reader, 1);
            play.forge(1 - reader, 23, 40);
            play.x.update(reader);
            play.loseAll(reader);
            play.x.tick(29);
            play.loseAll(reader);
            play.x.tick(1);
            due.is("BROKEN", play.is(reader), "3 0 -1");
            play.settle();
            due.is("by RESET", play.is(1 - reader), "3 0 -1");
            play.x.connect(false);
            play.settle();
            due.is("both READY", play.is(0) + play.is(1), "2 1 -12 1 -1");
        }
    }

    private static void brokenLosesKeys(Due due) {
        due.sentence("A connection that is BROKEN loses .. keys");
        Play play = broken();
        play.loseAll(0);
        play.loseAll(1);
        play.untilServerHello();
        play.write(1, 21, 1, 7);
        play.x.deliver(1);
        due.is("a plain ALERT on the new one", play.x.side(0, 3), 256 + 7);
    }

    private static void brokenReady(Due due) {
        due.sentence("and is not READY");
        Play play = broken();
        due.is("not READY", play.x.side(0, 2), 0);
        due.is("close", play.x.close(0), false);
        due.is("update", play.x.update(0), false);
        due.is("no command is out", play.x.about(4), 0);
    }

    private static void closedStays(Due due) {
        due.sentence("(CLOSED stays)");
        for (int side = 0; side < 2; side++) {
            Play play = Play.ready();
            play.x.close(side);
            play.x.tick(30);
            due.is("BROKEN and CLOSED with 0", play.is(side), "3 0 0");
            play = Play.ready();
            play.x.update(side);
            play.x.close(1 - side);
            play.x.deliver(1 - side);
            play.x.tick(30);
            due.is("BROKEN and CLOSED with 256", play.is(side), "3 0 256");
        }
    }

    private static void brokenKeeps(Due due) {
        due.sentence("all this outlasts connections: store, last command and answer, commands, tickets, draws");
        Play play = Play.ready();
        play.x.command(1, 3, 30, 0);
        play.settle();
        play.x.command(0, 3, 0, 0);
        play.loseAll(0);
        play.x.update(1);
        play.loseAll(1);
        play.x.tick(30);
        due.is("both are BROKEN", play.x.side(0, 1) + play.x.side(1, 1), 6);
        due.is("stored", play.x.stored(3), 30);
        due.is("commands", play.x.about(0), 2);
        due.is("carried out last", play.x.about(1), 1);
        due.is("tickets given", play.x.about(2), 1);
        due.is("ticket read", play.x.about(3), 1);
        due.is("answer", play.x.answer(1, 0), 1);
        due.is("no answer", play.x.answer(2, 0), 0);
        due.is("draws", play.x.side(0, 4) + play.x.side(1, 4), 4);
        due.is("numbers", play.x.side(0, 0) + play.x.side(1, 0), 2);
        play.loseAll(0);
        play.loseAll(1);
        play.x.connect(true);
        play.settle();
        due.is("the ticket's secret is known", play.x.side(1, 2), 1);
        due.is("the second is answered", play.x.answer(2, 2), 30);
    }

    private static void brokenSendsNothing(Due due) {
        due.sentence("nothing is sent .. by it");
        Play play = broken();
        play.loseAll(0);
        play.loseAll(1);
        ticks(play, 60);
        due.is("ticks", play.x.flying(0), 0);
        play.x.command(0, 0, 0, 0);
        due.is("a command", play.x.flying(0), 0);
        play.x.close(0);
        play.x.update(0);
        due.is("close and update", play.x.flying(0), 0);
    }

    private static void brokenTakesNothing(Due due) {
        due.sentence("nothing is .. taken by it");
        Play play = Play.ready();
        play.x.update(0);
        play.x.deliver(0);
        play.x.update(1);
        play.x.disturb(1, 1);
        play.x.disturb(1, 2);
        play.x.tick(30);
        due.is("BROKEN", play.x.side(0, 1), 3);
        play.loseAll(0);
        for (int kind : new int[] {2, 3}) {
            while (play.x.datagram(1, 0, 1) != kind) {
                play.x.disturb(1, 1);
            }
            due.is("arrives", play.x.deliver(1), kind);
            due.is("BROKEN", play.is(0), "3 0 -1");
            due.is("nothing is sent", play.x.flying(0), 0);
            for (int what = 5; what <= 10; what++) {
                due.is("side(0, " + what + ")", play.x.side(0, what), 0);
            }
        }
    }

    private static void noConnection(Due due) {
        due.sentence("A TICK: without a connection nothing goes on");
        Play play = new Play(1, 2, 3);
        String before = play.state();
        ticks(play, 60);
        due.is("all is as before", play.state(), before);
    }
}

/** Promises 4 and 5: close and update, with alerts and keys that move on. */
public final class CloseUpdateTest {
    public static void main(String[] args) {
        Due due = new Due("CloseUpdateTest");
        refused(due);
        for (int side = 0; side < 2; side++) {
            closes(due, side);
            updates(due, side);
            fills(due, side);
        }
        exactlyNinetyNine(due);
        exactlyHundred(due);
        closedStreamsGoOn(due);
        closedReadsNothing(due);
        answerThenAlert(due);
        due.end();
    }

    private static void refused(Due due) {
        Play play = new Play(1, 2, 3);
        for (int step = 0; step < 4; step++) {
            for (int side = -1; side <= 2; side++) {
                due.is("close(" + side + ")", play.x.close(side), false);
                due.is("update(" + side + ")", play.x.update(side), false);
            }
            if (step == 0) {
                play.x.connect(false);
            } else if (step == 1) {
                play.x.deliver(0);
                play.x.deliver(1);
            } else {
                play.x.deliver(0);
            }
        }
        play.settle();
        due.is("close(2)", play.x.close(2), false);
        due.is("close(MIN)", play.x.close(Integer.MIN_VALUE), false);
        due.is("update(-1)", play.x.update(-1), false);
    }

    private static void closes(Due due, int side) {
        Play play = Play.ready();
        long key = Keys.ready().session[side];
        int sequence = side;
        int segments = 2 + side;
        due.is("sequence", play.x.side(side, 9), sequence);
        due.is("close", play.x.close(side), true);
        due.is("alert", play.seen(side, 0), Play.told(1, 2, segments, 0, Reckon.sealed(key, sequence, 21, 0)));
        due.is("sequence grew", play.x.side(side, 9), sequence + 1);
        due.is("CLOSED", play.x.side(side, 3), 0);
        due.is("READY still", play.x.side(side, 2), 1);
        due.is("close again", play.x.close(side), false);
        due.is("update when CLOSED", play.x.update(side), false);
        due.is("other not yet", play.x.side(1 - side, 3), -1);
        play.settle();
        due.is("other told", play.x.side(1 - side, 3), 256);
        due.is("other opened it", play.x.side(1 - side, 10), sequence + 1);
        due.is("other sends no alert", play.x.side(1 - side, 5), 3 - side);
        due.is("other is READY still", play.x.side(1 - side, 2), 1);
        due.is("other may not close", play.x.close(1 - side), false);
        due.is("command when CLOSED", play.x.command(0, 0, 0, 0), 1);
        due.is("is not sent", play.x.flying(0), 0);
    }

    private static void updates(Due due, int side) {
        Play play = Play.ready();
        long key = Keys.ready().session[side];
        due.is("update", play.x.update(side), true);
        due.is("update record", play.seen(side, 0), Play.told(1, 2, 2 + side, 0, Reckon.sealed(key, side, 22, 24)));
        due.is("sequence", play.x.side(side, 9), 0);
        due.is("the other's before", play.x.side(1 - side, 10), side);
        due.is("update again", play.x.update(side), true);
        due.is("with the next key", play.seen(side, 1), Play.told(1, 2, 3 + side, 0,
            Reckon.sealed(Keys.next(key), 0, 22, 24)));
        play.settle();
        due.is("the other's sequence", play.x.side(1 - side, 10), 0);
        play.x.command(1, 4, 44, 0);
        play.settle();
        due.is("commands go on", play.x.stored(4), 44);
        due.is("answered", play.x.answer(1, 0), 1);
        due.is("sequence goes on", play.x.side(side, 9), 1);
        due.is("the other's goes on", play.x.side(1 - side, 10), 1);
    }

    /** Four updates fill the window; then bytes wait, 8 for each, and 100 of them refuse the next. */
    private static void fills(Due due, int side) {
        Play play = Play.ready();
        for (int n = 1; n <= 4; n++) {
            play.x.update(side);
        }
        due.is("all sent", play.x.side(side, 7), 0);
        for (int n = 1; n <= 13; n++) {
            due.is("update", play.x.update(side), true);
            due.is("bytes wait", play.x.side(side, 7), 8 * n);
        }
        due.is("update refused", play.x.update(side), false);
        due.is("bytes wait", play.x.side(side, 7), 104);
        due.is("flying", play.x.flying(side), 4);
        play.x.deliver(side);
        play.x.deliver(1 - side);
        due.is("16 were sent", play.x.side(side, 7), 88);
        due.is("update", play.x.update(side), true);
        due.is("bytes wait", play.x.side(side, 7), 96);
        due.is("update at 96", play.x.update(side), true);
        due.is("update at 104", play.x.update(side), false);
        due.is("close at 104", play.x.close(side), true);
        due.is("bytes wait", play.x.side(side, 7), 112);
        play.settle();
        due.is("told", play.x.side(1 - side, 3), 256);
        due.is("nothing waits", play.x.side(side, 7), 0);
    }

    /** An answer of 11 bytes and eleven updates wait: one more is taken. */
    private static void exactlyNinetyNine(Due due) {
        Play play = Play.ready();
        play.x.command(0, 0, 0, 0);
        for (int i = 0; i < 4; i++) {
            play.x.update(1);
        }
        play.x.deliver(0);
        for (int i = 0; i < 11; i++) {
            play.x.update(1);
        }
        due.is("bytes wait", play.x.side(1, 7), 99);
        due.is("update at 99", play.x.update(1), true);
        due.is("update at 107", play.x.update(1), false);
        play.settle();
        due.is("all read", play.x.answer(1, 0), 1);
        due.is("update", play.x.update(1), true);
    }

    /** A forged answer to a command that waits still makes a second one wait: 28 bytes, and nine updates. */
    private static void exactlyHundred(Due due) {
        Play play = Play.ready();
        for (int i = 0; i < 6; i++) {
            play.x.update(1);
        }
        play.deliverAll(1);
        play.deliverAll(0);
        for (int i = 0; i < 4; i++) {
            play.x.update(0);
        }
        play.x.command(0, 0, 0, 0);
        play.x.command(0, 0, 0, 0);
        due.is("one command waits", play.x.side(0, 7), 14);
        long key = Keys.ready().session[1];
        for (int i = 0; i < 4; i++) {
            key = Keys.next(key);
        }
        play.write(1, Reckon.join(Reckon.sealed(key, 0, 23, 1, 0, 0, 0), Reckon.bytes(23, 40)));
        play.x.deliver(1);
        due.is("two wait", play.x.side(0, 7), 28);
        for (int i = 0; i < 9; i++) {
            due.is("update", play.x.update(0), true);
        }
        due.is("bytes wait", play.x.side(0, 7), 100);
        due.is("update at 100", play.x.update(0), false);
        due.is("bytes wait", play.x.side(0, 7), 100);
        due.is("close at 100", play.x.close(0), true);
    }

    private static void closedStreamsGoOn(Due due) {
        Play play = Play.ready();
        play.x.close(0);
        play.x.update(1);
        play.x.deliver(1);
        due.is("a CLOSED side confirms", play.seen(0, 1), Play.told(1, 3, 4, 0));
        play.x.disturb(0, 0);
        play.x.deliver(0);
        play.x.tick(5);
        due.is("and sends again", play.x.datagram(0, 0, 1), 2);
        due.is("deliver", play.x.deliver(0), 2);
        due.is("told", play.x.side(1, 3), 256);
        play.x.deliver(1);
        due.is("confirmed", play.x.side(0, 6), 3);
    }

    private static void closedReadsNothing(Due due) {
        Play play = Play.ready();
        play.x.command(1, 1, 1, 0);
        play.x.close(1);
        play.settle();
        due.is("not carried out", play.x.about(1), 0);
        due.is("client told", play.x.side(0, 3), 256);
        due.is("command is out still", play.x.about(4), 1);
        due.is("server opened", play.x.side(1, 10), 0);
        due.is("server expects", play.x.side(1, 8), 3);
        due.is("client's is confirmed", play.x.side(0, 6), 3);
        play.x.connect(true);
        due.is("none is out on a new one", play.x.about(4), 0);
        play.settle();
        due.is("carried out", play.x.stored(1), 1);
    }

    /** The answer and an alert are read from one datagram's arrival: the next command was sent between. */
    private static void answerThenAlert(Due due) {
        Play play = Play.ready();
        play.x.command(1, 1, 1, 0);
        play.x.command(1, 2, 2, 0);
        play.x.deliver(0);
        play.x.close(1);
        play.x.disturb(1, 0);
        play.x.disturb(1, 1);
        play.x.deliver(1);
        play.x.deliver(1);
        due.is("told", play.x.side(0, 3), 256);
        due.is("answer(1, 0)", play.x.answer(1, 0), 1);
        due.is("command 2 is out", play.x.about(4), 2);
        due.is("sequence", play.x.side(0, 9), 2);
    }
}

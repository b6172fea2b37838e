/** The session: each command is carried out once, and what a forger sends is refused. For promises 7, 13 to 15. */
public final class SessionTest {
    private static final Keys KEYS = Keys.ready();
    /** The head of a record that never comes, for the two bytes behind a forged ticket. */
    private static final int[] REST = {23, 40};

    public static void main(String[] args) {
        Due due = new Due("SessionTest");
        onceThoughTheAnswerIsLost(due);
        oftenBroken(due);
        forgedCommands(due);
        forgedAnswers(due);
        forgedTickets(due);
        answerWithoutCommand(due);
        due.end();
    }

    private static void onceThoughTheAnswerIsLost(Due due) {
        Play play = Play.ready();
        play.x.command(3, 5, 1, 0);
        play.settle();
        play.x.command(1, 5, 1, 0);
        play.x.deliver(0);
        due.is("carried out", play.x.stored(5), 1);
        due.is("no answer", play.x.answer(2, 0), 0);
        play.loseAll(1);
        play.x.tick(30);
        due.is("the client's is BROKEN", play.x.side(0, 1), 3);
        play.loseAll(0);
        play.loseAll(1);
        play.x.connect(true);
        play.settle();
        due.is("answered", play.x.answer(2, 0), 1);
        due.is("the same answer: it was not there", play.x.answer(2, 1), 0);
        due.is("the value that it had", play.x.answer(2, 2), 0);
        due.is("carried out last", play.x.about(1), 2);
        play.x.command(0, 5, 0, 0);
        play.settle();
        due.is("goes on", play.x.answer(3, 2), 1);
    }

    /** SWAPs that count up: were one carried out twice or never, the next would not fit. */
    private static void oftenBroken(Due due) {
        Play play = new Play(11, 12, 13);
        play.x.command(1, 0, 0, 0);
        for (int n = 0; n < 9; n++) {
            play.x.command(3, 0, n + 1, n);
        }
        for (int round = 0; round < 9; round++) {
            play.x.connect(round % 2 == 0);
            play.handshake();
            if (round % 3 == 0) {
                play.x.deliver(0);
            }
            play.loseAll(0);
            play.loseAll(1);
            play.x.tick(30);
            play.loseAll(0);
            play.loseAll(1);
        }
        play.x.connect(true);
        play.settle();
        due.is("counted up", play.x.stored(0), 9);
        for (int n = 2; n <= 10; n++) {
            due.is("result of " + n, play.x.answer(n, 1), 1);
            due.is("value of " + n, play.x.answer(n, 2), n - 2);
        }
    }

    private static void serverTakes(Due due, String what, int code, int... content) {
        Play play = Play.ready();
        play.x.command(1, 2, 3, 4);
        play.write(0, Reckon.sealed(KEYS.session[0], 0, 23, content));
        play.x.deliver(0);
        due.is(what, play.x.side(1, 3), code);
        due.is(what + ": carried out", play.x.about(1), code == -1 ? 1 : 0);
        if (code != -1) {
            due.is(what + ": alert", play.seen(1, 1), Play.told(1, 2, 3, 0, Reckon.sealed(KEYS.session[1], 1, 21, code)));
        }
    }

    private static void forgedCommands(Due due) {
        serverTakes(due, "fine", -1, 1, 1, 15, 0, 1, 0, 0);
        serverTakes(due, "key 16", 50, 1, 1, 16, 0, 1, 0, 0);
        serverTakes(due, "key 255", 50, 1, 1, 255, 0, 1, 0, 0);
        serverTakes(due, "operation 4", 50, 1, 4, 0, 0, 1, 0, 0);
        serverTakes(due, "operation 4 of number 2", 50, 2, 4, 0, 0, 1, 0, 0);
        serverTakes(due, "6 bytes", 50, 1, 1, 0, 0, 1, 0);
        serverTakes(due, "no bytes", 50);
        serverTakes(due, "number 0", 10, 0, 1, 0, 0, 1, 0, 0);
        serverTakes(due, "number 2", 10, 2, 1, 0, 0, 1, 0, 0);
        Play play = Play.ready();
        play.x.command(1, 2, 3, 0);
        play.settle();
        play.x.command(2, 2, 0, 0);
        play.write(0, Reckon.sealed(KEYS.session[0], 1, 23, 1, 2, 2, 0, 0, 0, 0));
        play.x.deliver(0);
        due.is("number 1 again does nothing", play.x.stored(2), 3);
        due.is("the same answer again", play.seen(1, 1), Play.told(1, 2, 4, 0,
            Reckon.sealed(KEYS.session[1], 2, 23, 1, 0, 0, 0)));
        play.x.deliver(1);
        play.x.deliver(1);
        due.is("which the client did not wait for", play.x.side(0, 3), 10);
        due.is("command 2 is out still", play.x.about(4), 2);
    }

    private static Play withAnswerOnTheWay() {
        Play play = Play.ready();
        play.x.command(0, 2, 0, 0);
        play.x.deliver(0);
        play.x.deliver(1);
        return play;
    }

    private static void clientTakes(Due due, String what, int code, int... content) {
        Play play = withAnswerOnTheWay();
        play.write(1, Reckon.sealed(KEYS.session[1], 1, 23, content));
        play.x.deliver(1);
        due.is(what, play.x.side(0, 3), code);
        due.is(what + ": answered", play.x.answer(1, 0), code == -1 ? 1 : 0);
        due.is(what + ": out", play.x.about(4), code == -1 ? 0 : 1);
    }

    private static void forgedAnswers(Due due) {
        clientTakes(due, "fine", -1, 1, 0, 0, 0);
        clientTakes(due, "number 0", 10, 0, 0, 0, 0);
        clientTakes(due, "number 2", 10, 2, 0, 0, 0);
        clientTakes(due, "3 bytes", 10, 1, 0, 0);
        clientTakes(due, "no bytes", 10);
        Play play = withAnswerOnTheWay();
        play.write(1, Reckon.sealed(KEYS.session[1], 1, 23, 1, 200, 255, 254));
        play.x.deliver(1);
        due.is("result as it stands", play.x.answer(1, 1), 200);
        due.is("value as it stands", play.x.answer(1, 2), 65534);
    }

    private static void forgedTickets(Due due) {
        int[][] contents = {{4, 1}, {4, 20}, {4, 0}, {4, 21}, {5, 1}, {4}, {4, 255}};
        for (int[] content : contents) {
            boolean fine = content.length == 2 && content[0] == 4 && content[1] >= 1 && content[1] <= 20;
            Play play = withAnswerOnTheWay();
            play.write(1, Reckon.join(Reckon.sealed(KEYS.session[1], 1, 22, content), REST));
            play.x.deliver(1);
            String what = "ticket " + java.util.Arrays.toString(content);
            due.is(what, play.x.side(0, 3), fine ? -1 : 10);
            due.is(what + " read", play.x.about(3), fine ? content[1] : 1);
            play = Play.ready();
            play.x.command(0, 0, 0, 0);
            play.write(0, Reckon.sealed(KEYS.session[0], 0, 22, content));
            play.x.deliver(0);
            due.is(what + " at the server", play.x.side(1, 3), 10);
        }
        Play play = withAnswerOnTheWay();
        play.write(1, Reckon.join(Reckon.sealed(KEYS.session[1], 1, 22, 4, 20), REST));
        play.x.deliver(1);
        play.x.close(0);
        play.settle();
        play.x.connect(true);
        play.settle();
        due.is("a secret that the server has not", play.x.side(1, 3), 115);
        due.is("client told", play.x.side(0, 3), 256 + 115);
        due.is("connect(false) goes on", play.x.connect(false), 3);
        play.settle();
        due.is("READY", play.x.side(0, 2), 1);
        due.is("answered", play.x.answer(1, 0), 1);
    }

    /** A segment of 16 bytes, of key updates that had to wait, leaves room for a forged answer to nothing. */
    private static void answerWithoutCommand(Due due) {
        Play play = Play.ready();
        for (int i = 0; i < 6; i++) {
            play.x.update(1);
        }
        play.deliverAll(1);
        play.deliverAll(0);
        due.is("length", play.x.datagram(1, 0, 4), 16);
        long key = KEYS.session[1];
        for (int i = 0; i < 4; i++) {
            key = Keys.next(key);
        }
        play.write(1, Reckon.sealed(key, 0, 23, 0, 0, 0, 0));
        play.x.deliver(1);
        due.is("an answer and no command is out", play.x.side(0, 3), 10);
        due.is("it was opened", play.x.side(0, 10), 1);
    }
}

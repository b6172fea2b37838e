/** Promise 12: side; promise 15: about. */
public final class SideTest {
    private static final int MIN = Integer.MIN_VALUE;
    private static final int MAX = Integer.MAX_VALUE;

    public static void main(String[] args) {
        Due due = new Due("SideTest");
        refused(due);
        handshake(due);
        wrongFinished(due);
        broken(due);
        about(due);
        due.end();
    }

    private static void refused(Due due) {
        Play play = Play.ready();
        for (int side : new int[] {-1, 2, MIN, MAX}) {
            due.is("side(" + side + ", 0)", play.x.side(side, 0), -1);
            due.is("side(" + side + ", 7)", play.x.side(side, 7), -1);
        }
        for (int what : new int[] {-1, 11, MIN, MAX}) {
            due.is("side(0, " + what + ")", play.x.side(0, what), -1);
            due.is("side(1, " + what + ")", play.x.side(1, what), -1);
            due.is("about(" + what + ")", play.x.about(what), -1);
        }
        due.is("about(5)", play.x.about(5), -1);
        Counted x = new Counted(1, 2, 3);
        due.is("side(0, 11) without a connection", x.side(0, 11), -1);
        due.is("side(1, -1) without a connection", x.side(1, -1), -1);
        due.is("side(2, 5) without a connection", x.side(2, 5), -1);
    }

    /** All of side, step by step through a handshake. */
    private static void handshake(Due due) {
        Play play = new Play(1, 2, 3);
        play.x.connect(false);
        all(due, play, 0, 1, 1, 0, -1, 0, 0, 0, 0, 0, 0, 0);
        all(due, play, 1, 0, 0, 0, -1, 0, 0, 0, 0, 0, 0, 0);
        play.x.deliver(0);
        all(due, play, 1, 1, 2, 0, -1, 0, 0, 0, 0, 0, 0, 0);
        play.x.deliver(1);
        all(due, play, 0, 1, 2, 0, -1, 2, 1, 0, 0, 0, 0, 0);
        play.x.deliver(0);
        all(due, play, 1, 1, 2, 0, -1, 2, 2, 0, 0, 1, 0, 0);
        play.x.deliver(1);
        all(due, play, 0, 1, 2, 0, -1, 2, 1, 1, 0, 0, 0, 0);
        play.x.deliver(1);
        all(due, play, 0, 1, 2, 0, -1, 2, 1, 1, 0, 1, 0, 0);
        play.x.deliver(1);
        all(due, play, 0, 1, 2, 1, -1, 2, 2, 1, 0, 2, 0, 0);
        play.x.deliver(0);
        play.x.deliver(0);
        all(due, play, 1, 1, 2, 0, -1, 2, 2, 2, 0, 1, 0, 0);
        play.x.deliver(0);
        all(due, play, 1, 1, 2, 1, -1, 2, 3, 2, 0, 2, 1, 0);
        play.settle();
        all(due, play, 0, 1, 2, 1, -1, 2, 2, 2, 0, 3, 0, 1);
        all(due, play, 1, 1, 2, 1, -1, 2, 3, 3, 0, 2, 1, 0);
    }

    private static void all(Due due, Play play, int side, int... want) {
        for (int what = 0; what < want.length; what++) {
            due.is("side(" + side + ", " + what + ")", play.x.side(side, what), want[what]);
        }
    }

    /** A record that opens, but is wrong, counts as opened; one that does not open counts not. */
    private static void wrongFinished(Due due) {
        Keys keys = Keys.ready();
        Play play = new Play(1, 2, 3);
        play.untilServerHello();
        play.x.deliver(1);
        play.write(1, Reckon.sealed(keys.handshake[1], 0, 22, 20, 0, 0, 0, 0));
        play.x.deliver(1);
        all(due, play, 0, 1, 2, 0, 51, 2, 2, 1, 0, 2, 1, 1);
        play = new Play(1, 2, 3);
        play.untilServerHello();
        play.x.deliver(1);
        play.x.alter(1, 11, 1);
        play.x.deliver(1);
        all(due, play, 0, 1, 2, 0, 20, 2, 2, 1, 0, 2, 1, 0);
    }

    private static void broken(Due due) {
        Play play = Play.ready();
        play.x.command(1, 1, 1, 0);
        play.loseAll(0);
        play.x.tick(30);
        all(due, play, 0, 1, 3, 0, -1, 2, 0, 0, 0, 0, 0, 0);
        all(due, play, 1, 1, 2, 1, -1, 2, 3, 3, 0, 2, 1, 0);
        play.loseAll(0);
        play.x.connect(false);
        all(due, play, 0, 2, 1, 0, -1, 2, 0, 0, 0, 0, 0, 0);
        play.x.deliver(0);
        all(due, play, 1, 2, 2, 0, -1, 2, 0, 0, 0, 0, 0, 0);
    }

    private static void about(Due due) {
        Play play = new Play(1, 2, 3);
        play.x.command(1, 1, 1, 0);
        play.x.command(1, 2, 1, 0);
        abouts(due, play, 2, 0, 0, 0, 0);
        play.x.connect(false);
        for (int direction : new int[] {0, 1, 0, 1, 1, 1, 0, 0, 0, 1, 1}) {
            play.x.deliver(direction);
        }
        abouts(due, play, 2, 0, 1, 1, 1);
        play.x.deliver(0);
        abouts(due, play, 2, 1, 1, 1, 1);
        play.x.close(1);
        play.x.deliver(1);
        play.x.deliver(1);
        abouts(due, play, 2, 1, 1, 1, 2);
        play.x.deliver(1);
        due.is("CLOSED", play.x.side(0, 3), 256);
        abouts(due, play, 2, 1, 1, 1, 2);
        play.x.connect(true);
        abouts(due, play, 2, 1, 1, 1, 0);
        play.settle();
        abouts(due, play, 2, 2, 2, 2, 0);
    }

    private static void abouts(Due due, Play play, int... want) {
        for (int what = 0; what < want.length; what++) {
            due.is("about(" + what + ")", play.x.about(what), want[what]);
        }
    }
}

/** Promise 3: connect, with OPEN, OPENED and tickets. */
public final class ConnectTest {
    public static void main(String[] args) {
        Due due = new Due("ConnectTest");
        opens(due);
        refused(due);
        midway(due);
        tickets(due);
        twentyTickets(due);
        sixty(due);
        olderOpen(due);
        sameOpen(due);
        due.end();
    }

    private static void opens(Due due) {
        Play play = new Play(1, 2, 3);
        due.is("connect", play.x.connect(true), 1);
        due.is("OPEN", play.seen(0, 0), Play.told(1, 0, 0, 0));
        due.is("state", play.x.side(0, 1), 1);
        due.is("number", play.x.side(0, 0), 1);
        due.is("server's number", play.x.side(1, 0), 0);
        due.is("deliver(0)", play.x.deliver(0), 0);
        due.is("server's number", play.x.side(1, 0), 1);
        due.is("server's state", play.x.side(1, 1), 2);
        due.is("OPENED", play.seen(1, 0), Play.told(1, 1, 0, 0));
        play.x.disturb(1, 2);
        due.is("deliver(1)", play.x.deliver(1), 1);
        due.is("state", play.x.side(0, 1), 2);
        due.is("draws", play.x.side(0, 4), 2);
        due.is("second OPENED", play.x.deliver(1), 1);
        due.is("draws stay", play.x.side(0, 4), 2);
        due.is("flying(0)", play.x.flying(0), 1);
    }

    private static void refused(Due due) {
        Play play = new Play(1, 2, 3);
        play.x.connect(false);
        due.is("connect when OPENING", play.x.connect(false), -1);
        due.is("flying(0)", play.x.flying(0), 1);
        play.settle();
        due.is("connect when READY", play.x.connect(false), -1);
        due.is("close", play.x.close(0), true);
        due.is("connect when CLOSED", play.x.connect(false), 2);
        due.is("CLOSED is of the old connection", play.x.side(0, 3), -1);
        due.is("READY is of the old connection", play.x.side(0, 2), 0);
        due.is("segments", play.x.side(0, 5), 0);
        play.settle();
        due.is("READY", play.x.side(0, 2), 1);
        due.is("server CLOSED no more", play.x.side(1, 3), -1);
    }

    /** A connection that is UP but not READY may be left; a late OPENED or GOT of it does nothing. */
    private static void midway(Due due) {
        Play play = new Play(1, 2, 3);
        play.untilServerHello();
        due.is("connect", play.x.connect(false), 2);
        due.is("late DATA", play.x.deliver(1), 2);
        due.is("no GOT", play.x.flying(0), 1);
        due.is("kind", play.x.datagram(0, 0, 1), 0);
        play.settle();
        due.is("READY", play.x.side(0, 2) + play.x.side(1, 2), 2);
        due.is("number", play.x.side(1, 0), 2);
        due.is("client's draws go on", play.x.side(0, 4), 4);
        due.is("server's draws go on", play.x.side(1, 4), 4);
    }

    private static void tickets(Due due) {
        Play play = Play.ready();
        Keys first = Keys.ready();
        due.is("tickets given", play.x.about(2), 1);
        due.is("ticket read", play.x.about(3), 1);
        play.x.close(0);
        play.settle();
        due.is("connect(true)", play.x.connect(true), 2);
        play.x.deliver(0);
        play.x.deliver(1);
        Keys second = new Keys(1, 2, 2, 1, first.ticketSecret(1));
        due.is("hello with ticket 1", play.seen(0, 0), Play.told(2, 2, 0, 0,
            Reckon.join(Reckon.bytes(22, 14), second.clientHello)));
        play.x.deliver(0);
        due.is("FINISHED with ticket 1", play.seen(1, 2), Play.told(2, 2, 1, 0,
            Reckon.sealed(second.handshake[1], 0, 22, second.serverFinished)));
        play.x.deliver(1);
        play.x.deliver(1);
        play.x.deliver(1);
        play.deliverAll(0);
        due.is("ticket given", play.x.about(2), 2);
        due.is("the ticket", play.seen(1, 1), Play.told(2, 2, 2, 0, Reckon.sealed(second.session[1], 0, 22, 4, 2)));
        due.is("not read yet", play.x.about(3), 1);
        play.x.close(0);
        play.loseAll(0);
        play.loseAll(1);
        due.is("connect(true)", play.x.connect(true), 3);
        play.x.deliver(0);
        play.x.deliver(1);
        due.is("the ticket that was read", play.x.datagram(0, 0, 5 + 11), 1);
        play.settle();
        due.is("READY", play.x.side(1, 2), 1);
        due.is("ticket read", play.x.about(3), 3);
        play.x.close(0);
        play.x.connect(false);
        play.deliverAll(0);
        play.deliverAll(1);
        due.is("connect(false) has secret 0", play.x.datagram(0, 0, 5 + 11), 0);
    }

    private static void twentyTickets(Due due) {
        Play play = Play.ready();
        for (int n = 2; n <= 22; n++) {
            play.x.close(0);
            play.x.deliver(0);
            play.x.deliver(1);
            due.is("connect", play.x.connect(true), n);
            play.handshake();
            due.is("given on " + n, play.x.about(2), Math.min(n, 20));
            due.is("read on " + n, play.x.about(3), Math.min(n, 20));
            due.is("READY on " + n, play.x.side(0, 2) + play.x.side(1, 2), 2);
        }
        due.is("no ticket 21: segments of the server", play.x.side(1, 5), 2);
    }

    private static void sixty(Due due) {
        Play play = new Play(1, 2, 3);
        for (int n = 1; n <= 60; n++) {
            due.is("connect", play.x.connect(false), n);
            play.x.deliver(0);
            play.x.deliver(1);
            due.is("the hello is lost", play.x.disturb(0, n < 60 ? 0 : 1), true);
        }
        play.settle();
        due.is("close", play.x.close(0), true);
        due.is("connect 61", play.x.connect(false), -1);
        due.is("state stays", play.x.side(0, 1), 2);
        due.is("CLOSED stays", play.x.side(0, 3), 0);
    }

    /** An OPEN of the connection that the server has, on its way to READY or behind it, changes nothing. */
    private static void sameOpen(Due due) {
        Play play = new Play(1, 2, 3);
        play.x.connect(false);
        play.x.disturb(0, 2);
        play.x.deliver(0);
        play.x.deliver(1);
        play.x.disturb(0, 1);
        play.x.deliver(0);
        due.is("kind", play.x.deliver(0), 0);
        due.is("server expects", play.x.side(1, 8), 1);
        due.is("segments", play.x.side(1, 5), 2);
        due.is("OPENED", play.x.datagram(1, 3, 1), 1);
        play.settle();
        due.is("READY", play.x.side(0, 2) + play.x.side(1, 2), 2);
    }

    private static void olderOpen(Due due) {
        Play play = new Play(1, 2, 3);
        play.x.connect(false);
        play.x.disturb(0, 2);
        play.x.disturb(0, 2);
        play.x.deliver(0);
        due.is("OPEN once more", play.x.deliver(0), 0);
        due.is("OPENED twice", play.x.flying(1), 2);
        play.x.deliver(1);
        play.x.connect(false);
        play.x.disturb(0, 1);
        play.x.disturb(0, 1);
        due.is("OPEN 2", play.x.datagram(0, 0, 0), 2);
        play.x.deliver(0);
        due.is("server's number", play.x.side(1, 0), 2);
        due.is("server's OPENED", play.x.flying(1), 2);
        play.x.deliver(0);
        play.x.deliver(0);
        due.is("OPEN 1 and hello of 1 do nothing", play.x.flying(1), 2);
        due.is("server's number stays", play.x.side(1, 0), 2);
        due.is("server expects", play.x.side(1, 8), 0);
        due.is("OPENED of 1", play.x.datagram(1, 0, 0), 1);
        play.x.deliver(1);
        due.is("still OPENING", play.x.side(0, 1), 1);
        play.x.deliver(1);
        due.is("UP", play.x.side(0, 1), 2);
    }
}

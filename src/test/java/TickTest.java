/** Promise 6: tick, with what is sent again and what breaks. */
public final class TickTest {
    public static void main(String[] args) {
        Due due = new Due("TickTest");
        refused(due);
        opening(due);
        segment(due);
        serversSegment(due);
        lateConfirm(due);
        severalTimers(due);
        fullLine(due);
        broken(due);
        due.end();
    }

    private static void refused(Due due) {
        Counted x = new Counted(1, 2, 3);
        due.is("tick(0)", x.tick(0), -1);
        due.is("tick(-1)", x.tick(-1), -1);
        due.is("tick(51)", x.tick(51), -1);
        due.is("tick(MAX)", x.tick(Integer.MAX_VALUE), -1);
        due.is("tick(1)", x.tick(1), 1);
        due.is("tick(50)", x.tick(50), 51);
        due.is("tick(7)", x.tick(7), 58);
    }

    private static void opening(Due due) {
        Counted x = new Counted(1, 2, 3);
        x.connect(false);
        for (int sent = 1; sent <= 5; sent++) {
            x.tick(4);
            due.is("flying before", x.flying(0), sent);
            x.tick(1);
            due.is("flying", x.flying(0), sent + 1);
            for (int what = 0; what < 5; what++) {
                due.is("OPEN again", x.datagram(0, sent, what), what == 0 ? 1 : 0);
            }
        }
        x.tick(4);
        due.is("state", x.side(0, 1), 1);
        x.tick(1);
        due.is("state", x.side(0, 1), 3);
        due.is("no RESET", x.flying(0), 6);
        due.is("number", x.side(0, 0), 1);
        x.deliver(0);
        due.is("OPENED of a BROKEN one", x.deliver(1), 1);
        due.is("state", x.side(0, 1), 3);
        due.is("connect", x.connect(false), 2);
        due.is("OPEN", x.datagram(0, 5, 0), 2);
    }

    private static void segment(Due due) {
        Play play = new Play(1, 2, 3);
        play.untilClientHello();
        String hello = play.seen(0, 0);
        play.x.tick(4);
        due.is("flying", play.x.flying(0), 1);
        for (int sent = 2; sent <= 6; sent++) {
            play.x.tick(sent == 2 ? 1 : 5);
            due.is("flying", play.x.flying(0), sent);
            due.is("sent again", play.seen(0, sent - 1), hello);
        }
        play.x.tick(4);
        due.is("state", play.x.side(0, 1), 2);
        play.x.tick(1);
        due.is("state", play.x.side(0, 1), 3);
        due.is("RESET", play.seen(0, 6), Play.told(1, 4, 0, 0));
        for (int what = 5; what <= 10; what++) {
            due.is("side(0, " + what + ")", play.x.side(0, what), 0);
        }
        play.loseAll(1);
        play.x.disturb(0, 1);
        play.x.disturb(0, 1);
        play.x.disturb(0, 1);
        play.x.disturb(0, 1);
        play.x.disturb(0, 1);
        play.x.disturb(0, 1);
        due.is("deliver the RESET", play.x.deliver(0), 4);
        due.is("server's state", play.x.side(1, 1), 3);
        play.x.deliver(0);
        due.is("a BROKEN one takes nothing", play.x.flying(1), 0);
        due.is("connect", play.x.connect(false), 2);
        play.settle();
        due.is("READY", play.x.side(1, 2), 1);
    }

    private static void serversSegment(Due due) {
        Play play = new Play(1, 2, 3);
        play.untilServerHello();
        String hello = play.seen(1, 0);
        String finished = play.seen(1, 1);
        play.loseAll(1);
        play.x.tick(5);
        due.is("both again", play.seen(1, 0) + play.seen(1, 1), hello + finished);
        play.x.tick(24);
        due.is("state", play.x.side(1, 1), 2);
        due.is("flying", play.x.flying(1), 10);
        play.x.tick(1);
        due.is("state", play.x.side(1, 1), 3);
        due.is("RESET", play.seen(1, 10), Play.told(1, 4, 0, 0));
        due.is("nothing behind it", play.x.flying(1), 11);
        while (play.x.flying(1) > 1) {
            play.x.disturb(1, 0);
        }
        due.is("the client's is UP", play.x.side(0, 1), 2);
        due.is("RESET", play.x.deliver(1), 4);
        due.is("the client's is BROKEN", play.x.side(0, 1), 3);
    }

    private static void lateConfirm(Due due) {
        Play play = new Play(1, 2, 3);
        play.untilClientHello();
        play.x.tick(20);
        play.x.deliver(0);
        play.x.tick(9);
        due.is("the sixth was sent", play.x.flying(0), 5);
        play.x.deliver(1);
        due.is("confirmed", play.x.side(0, 6), 1);
        play.loseAll(0);
        play.x.tick(5);
        due.is("a confirmed one is not sent again", play.x.flying(0), 0);
        due.is("state", play.x.side(0, 1), 2);
    }

    /** A segment that a bit confirms stops; those round it go on, in order, each by its own timer. */
    private static void severalTimers(Due due) {
        Play play = Play.ready();
        play.x.update(0);
        play.x.tick(2);
        play.x.update(0);
        play.x.update(0);
        play.x.disturb(0, 1);
        play.x.deliver(0);
        play.x.deliver(1);
        play.loseAll(0);
        play.x.tick(2);
        due.is("nothing", play.x.flying(0), 0);
        play.x.tick(1);
        due.is("the first again", play.x.flying(0), 1);
        due.is("its number", play.x.datagram(0, 0, 2), 2);
        play.x.tick(2);
        due.is("the third again", play.x.flying(0), 2);
        due.is("its number", play.x.datagram(0, 1, 2), 4);
        play.x.tick(5);
        due.is("both again", play.x.flying(0), 4);
        due.is("first", play.x.datagram(0, 2, 2), 2);
        due.is("third", play.x.datagram(0, 3, 2), 4);
        due.is("confirmed below the first that is not", play.x.side(0, 6), 2);
        play.settle();
        due.is("all confirmed", play.x.side(0, 6), 5);
    }

    /** 12 are on the way: what is sent again, and the RESET, is lost; tries and breaking go on. */
    private static void fullLine(Due due) {
        Play play = Play.ready();
        for (int i = 0; i < 4; i++) {
            play.x.update(0);
        }
        play.x.tick(10);
        due.is("flying", play.x.flying(0), 12);
        due.is("copy refused", play.x.disturb(0, 2), false);
        play.x.tick(19);
        due.is("flying", play.x.flying(0), 12);
        due.is("state", play.x.side(0, 1), 2);
        play.x.tick(1);
        due.is("state", play.x.side(0, 1), 3);
        due.is("flying", play.x.flying(0), 12);
        due.is("last is no RESET", play.x.datagram(0, 11, 1), 2);
        play.x.connect(true);
        due.is("OPEN was lost", play.x.flying(0), 12);
        play.x.deliver(0);
        play.x.tick(5);
        due.is("OPEN again", play.x.datagram(0, 11, 1), 0);
    }

    private static void broken(Due due) {
        Play play = Play.ready();
        play.x.command(1, 1, 5, 0);
        play.loseAll(0);
        due.is("about(4)", play.x.about(4), 1);
        play.x.tick(24);
        play.loseAll(0);
        play.x.tick(5);
        due.is("last try", play.x.flying(0), 1);
        play.x.tick(1);
        due.is("state", play.x.side(0, 1), 3);
        due.is("not READY", play.x.side(0, 2), 0);
        due.is("not CLOSED", play.x.side(0, 3), -1);
        due.is("about(4)", play.x.about(4), 0);
        due.is("close", play.x.close(0), false);
        due.is("server is READY", play.x.side(1, 2), 1);
        due.is("connect", play.x.connect(true), 2);
        play.settle();
        due.is("carried out once", play.x.about(1), 1);
        due.is("answered", play.x.answer(1, 0), 1);
        play.x.close(0);
        play.loseAll(0);
        play.x.tick(30);
        due.is("BROKEN", play.x.side(0, 1), 3);
        due.is("CLOSED stays", play.x.side(0, 3), 0);
        due.is("not READY", play.x.side(0, 2), 0);
    }
}

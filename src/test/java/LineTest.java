/** Promises 7 to 11: deliver, disturb, alter, flying and datagram. */
public final class LineTest {
    private static final int MIN = Integer.MIN_VALUE;
    private static final int MAX = Integer.MAX_VALUE;

    public static void main(String[] args) {
        Due due = new Due("LineTest");
        refused(due);
        asked(due);
        disturbs(due);
        copies(due);
        alters(due);
        twelve(due);
        due.end();
    }

    private static void refused(Due due) {
        Counted x = new Counted(1, 2, 3);
        x.connect(false);
        for (int direction : new int[] {-1, 2, MIN, MAX}) {
            due.is("deliver", x.deliver(direction), -1);
            due.is("flying", x.flying(direction), -1);
            due.is("disturb", x.disturb(direction, 0), false);
            due.is("alter", x.alter(direction, 0, 1), false);
            due.is("datagram", x.datagram(direction, 0, 0), -1);
        }
        due.is("deliver(1), none there", x.deliver(1), -1);
        due.is("disturb(1), none there", x.disturb(1, 1), false);
        for (int how : new int[] {-1, 3, MIN, MAX}) {
            due.is("disturb how", x.disturb(0, how), false);
        }
        due.is("alter without bytes", x.alter(0, 0, 1), false);
        due.is("flying(0)", x.flying(0), 1);
        due.is("flying(1)", x.flying(1), 0);
    }

    private static void asked(Due due) {
        Play play = new Play(1, 2, 3);
        play.untilClientHello();
        int[] record = Reckon.join(Reckon.bytes(22, 14), Keys.ready().clientHello);
        int[] head = {1, 2, 0, 0, 16};
        for (int what = 0; what < 5; what++) {
            due.is("datagram(0, 0, " + what + ")", play.x.datagram(0, 0, what), head[what]);
        }
        for (int i = 0; i < 16; i++) {
            due.is("byte " + i, play.x.datagram(0, 0, 5 + i), record[i]);
        }
        due.is("byte 16", play.x.datagram(0, 0, 21), -1);
        due.is("what -1", play.x.datagram(0, 0, -1), -1);
        due.is("what MIN", play.x.datagram(0, 0, MIN), -1);
        due.is("what MAX", play.x.datagram(0, 0, MAX), -1);
        for (int k : new int[] {-1, 1, 11, 12, MIN, MAX}) {
            due.is("datagram " + k, play.x.datagram(0, k, 0), -1);
        }
        play.x.deliver(0);
        due.is("GOT", play.seen(1, 0), Play.told(1, 3, 1, 0));
        due.is("bytes of GOT", play.x.datagram(1, 0, 5), -1);
        due.is("third", play.x.datagram(1, 2, 2), 1);
        due.is("length of the third", play.x.datagram(1, 2, 4), 14 - 2);
    }

    private static void disturbs(Due due) {
        Play play = new Play(1, 2, 3);
        play.untilClientHello();
        play.x.deliver(0);
        String got = play.seen(1, 0);
        String hello = play.seen(1, 1);
        String finished = play.seen(1, 2);
        due.is("disturb 1", play.x.disturb(1, 1), true);
        due.is("order", play.seen(1, 0) + play.seen(1, 1) + play.seen(1, 2), hello + finished + got);
        due.is("disturb 0", play.x.disturb(1, 0), true);
        due.is("order", play.seen(1, 0) + play.seen(1, 1), finished + got);
        due.is("flying", play.x.flying(1), 2);
        due.is("disturb 2", play.x.disturb(1, 2), true);
        due.is("order", play.seen(1, 0) + play.seen(1, 1) + play.seen(1, 2), finished + got + finished);
        due.is("deliver", play.x.deliver(1), 2);
        due.is("order", play.seen(1, 0) + play.seen(1, 1), got + finished);
        due.is("deliver", play.x.deliver(1), 3);
        due.is("alone", play.x.disturb(1, 1), true);
        due.is("alone", play.seen(1, 0), finished);
    }

    /** A copy has bytes of its own, and what is sent again is what was sent first. */
    private static void copies(Due due) {
        Play play = new Play(1, 2, 3);
        play.untilClientHello();
        String hello = play.seen(0, 0);
        play.x.disturb(0, 2);
        play.x.alter(0, 0, 255);
        due.is("copy", play.seen(0, 1), hello);
        play.x.disturb(0, 0);
        due.is("the copy", play.seen(0, 0), hello);
        play.x.alter(0, 2, 7);
        play.x.disturb(0, 2);
        due.is("copy of the altered", play.x.datagram(0, 1, 7), 1 ^ 7);
        play.x.tick(5);
        due.is("sent again unaltered", play.seen(0, 2), hello);
    }

    private static void alters(Due due) {
        Play play = new Play(1, 2, 3);
        play.untilServerHello();
        due.is("length", play.x.datagram(1, 0, 4), 11);
        int last = play.x.datagram(1, 0, 15);
        due.is("alter the last", play.x.alter(1, 10, 255), true);
        due.is("last", play.x.datagram(1, 0, 15), last ^ 255);
        due.is("alter it back", play.x.alter(1, 10, 255), true);
        due.is("last", play.x.datagram(1, 0, 15), last);
        for (int k : new int[] {-1, 11, 15, 16, MIN, MAX}) {
            due.is("alter byte " + k, play.x.alter(1, k, 1), false);
        }
        for (int mask : new int[] {0, -1, 256, MIN, MAX}) {
            due.is("alter with " + mask, play.x.alter(1, 0, mask), false);
        }
        due.is("alter with 1", play.x.alter(1, 0, 1), true);
        due.is("byte 0", play.x.datagram(1, 0, 5), 23);
        due.is("the second is as it was", play.x.datagram(1, 1, 5), 23);
    }

    private static void twelve(Due due) {
        Play play = new Play(1, 2, 3);
        play.x.connect(false);
        for (int n = 2; n <= 12; n++) {
            due.is("copy", play.x.disturb(0, 2), true);
            due.is("flying", play.x.flying(0), n);
        }
        due.is("copy at 12", play.x.disturb(0, 2), false);
        due.is("move at 12", play.x.disturb(0, 1), true);
        play.x.tick(5);
        due.is("what is sent at 12 is lost", play.x.flying(0), 12);
        play.deliverAll(0);
        due.is("12 OPENED", play.x.flying(1), 12);
        play.deliverAll(1);
        due.is("one hello", play.x.flying(0), 1);
    }
}

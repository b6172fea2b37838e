/** Segments: the window, what is kept and confirmed, and what is read when a gap closes. For promises 5, 7, 12. */
public final class StreamTest {
    public static void main(String[] args) {
        Due due = new Due("StreamTest");
        window(due);
        cutAcrossSegments(due);
        bits(due);
        firstThatCame(due);
        oldAndFar(due);
        oldGot(due);
        farthestBit(due);
        nothingStays(due);
        sixteenOfWaiting(due);
        due.end();
    }

    /** Four are out from the first that is not confirmed, though a bit confirms one in between. */
    private static void window(Due due) {
        Play play = Play.ready();
        for (int i = 0; i < 5; i++) {
            play.x.update(0);
        }
        due.is("made", play.x.side(0, 5), 6);
        due.is("waits", play.x.side(0, 7), 8);
        play.x.disturb(0, 1);
        play.x.deliver(0);
        due.is("GOT", play.seen(1, 0), Play.told(1, 3, 2, 1));
        play.x.deliver(1);
        due.is("made", play.x.side(0, 5), 6);
        due.is("confirmed", play.x.side(0, 6), 2);
        due.is("waits", play.x.side(0, 7), 8);
        play.x.disturb(0, 1);
        play.x.disturb(0, 1);
        play.x.deliver(0);
        due.is("GOT of both", play.seen(1, 0), Play.told(1, 3, 4, 0));
        play.x.deliver(1);
        due.is("made", play.x.side(0, 5), 7);
        due.is("confirmed", play.x.side(0, 6), 4);
        due.is("waits", play.x.side(0, 7), 0);
    }

    /** A command's record lies across segments when bytes wait; it is read when it is whole. */
    private static void cutAcrossSegments(Due due) {
        Play play = Play.ready();
        for (int i = 0; i < 5; i++) {
            play.x.update(0);
        }
        play.x.command(1, 2, 3, 0);
        due.is("waits", play.x.side(0, 7), 22);
        play.x.deliver(0);
        play.x.deliver(1);
        due.is("16 of them", play.x.datagram(0, 3, 4), 16);
        due.is("waits", play.x.side(0, 7), 6);
        play.x.deliver(0);
        play.x.deliver(1);
        due.is("the rest", play.x.datagram(0, 3, 4), 6);
        play.x.deliver(0);
        play.x.deliver(0);
        play.x.deliver(0);
        due.is("not whole", play.x.about(1), 0);
        play.x.deliver(0);
        due.is("whole", play.x.about(1), 1);
        due.is("stored", play.x.stored(2), 3);
    }

    private static void bits(Due due) {
        int[][] orders = {{3, 2, 1, 0}, {1, 3, 0, 2}, {2, 0, 3, 1}, {0, 3, 2, 1}};
        int[][][] gots = {{{2, 4}, {2, 6}, {2, 7}, {6, 0}}, {{2, 1}, {2, 5}, {4, 1}, {6, 0}},
            {{2, 2}, {3, 1 << 0}, {3, 3}, {6, 0}}, {{3, 0}, {3, 2}, {3, 3}, {6, 0}}};
        for (int i = 0; i < orders.length; i++) {
            Play play = Play.ready();
            for (int n = 0; n < 4; n++) {
                play.x.update(0);
            }
            for (int n = 0; n < 4; n++) {
                while (play.x.datagram(0, 0, 2) != 2 + orders[i][n]) {
                    play.x.disturb(0, 1);
                }
                play.x.deliver(0);
                due.is("order " + i + ", GOT " + n, play.seen(1, n), Play.told(1, 3, gots[i][n][0], gots[i][n][1]));
            }
            due.is("all read", play.x.side(1, 8), 6);
            due.is("not failed", play.x.side(1, 3), -1);
            play.deliverAll(1);
            due.is("all confirmed", play.x.side(0, 6), 6);
        }
    }

    /** Of two with one number, the first that came is kept; the other is confirmed all the same. */
    private static void firstThatCame(Due due) {
        Play play = Play.ready();
        play.x.update(0);
        play.x.update(0);
        play.x.disturb(0, 1);
        play.x.disturb(0, 2);
        play.x.deliver(0);
        play.x.disturb(0, 1);
        play.x.alter(0, 3, 1);
        play.x.deliver(0);
        due.is("GOT", play.seen(1, 1), Play.told(1, 3, 2, 1));
        play.x.deliver(0);
        due.is("the first was kept", play.x.side(1, 3), -1);
        due.is("expected", play.x.side(1, 8), 4);
        play = Play.ready();
        play.x.update(0);
        play.x.update(0);
        play.x.disturb(0, 1);
        play.x.disturb(0, 2);
        play.x.alter(0, 3, 1);
        play.x.deliver(0);
        play.x.disturb(0, 1);
        play.x.deliver(0);
        play.x.deliver(0);
        due.is("the altered was first", play.x.side(1, 3), 20);
    }

    private static void oldAndFar(Due due) {
        Play play = Play.ready();
        play.x.update(0);
        play.x.disturb(0, 2);
        play.x.deliver(0);
        play.x.deliver(0);
        due.is("GOT of an old one", play.seen(1, 1), Play.told(1, 3, 3, 0));
        due.is("sequence", play.x.side(1, 10), 0);
        due.is("not failed", play.x.side(1, 3), -1);
        play = farSegment();
        due.is("5 is on the way", play.x.datagram(0, 0, 2), 5);
        play.x.deliver(0);
        due.is("3 above is kept", play.seen(1, 0), Play.told(1, 3, 2, 4));
    }

    private static Play farSegment() {
        Play play = Play.ready();
        for (int i = 0; i < 4; i++) {
            play.x.update(0);
        }
        play.x.disturb(0, 0);
        play.x.disturb(0, 0);
        play.x.disturb(0, 0);
        return play;
    }

    /** A GOT that comes late confirms nothing anew and breaks nothing. */
    private static void oldGot(Due due) {
        Play play = Play.ready();
        play.x.update(0);
        play.x.update(0);
        play.x.deliver(0);
        play.x.deliver(0);
        play.x.disturb(1, 1);
        play.x.deliver(1);
        due.is("confirmed", play.x.side(0, 6), 4);
        due.is("late GOT", play.x.deliver(1), 3);
        due.is("confirmed", play.x.side(0, 6), 4);
        play.x.tick(5);
        due.is("nothing again", play.x.flying(0), 0);
    }

    /** Bit 2 confirms the last of the window: it is not sent again. */
    private static void farthestBit(Due due) {
        Play play = farSegment();
        play.x.deliver(0);
        play.x.deliver(1);
        play.x.tick(5);
        due.is("three again", play.x.flying(0), 3);
        for (int k = 0; k < 3; k++) {
            due.is("number", play.x.datagram(0, k, 2), 2 + k);
        }
        due.is("confirmed", play.x.side(0, 6), 2);
    }

    /** Bytes that wait, segments that were kept and half a record are gone with their connection. */
    private static void nothingStays(Due due) {
        for (int first = 0; first < 4; first++) {
            Play play = Play.ready();
            for (int i = 0; i < 7; i++) {
                play.x.update(0);
            }
            for (int k = 0; k < first; k++) {
                play.x.disturb(0, 0);
            }
            play.x.deliver(0);
            due.is("expected", play.x.side(1, 8), first == 0 ? 3 : 2);
            due.is("waits", play.x.side(0, 7), 24);
            play.x.close(0);
            play.loseAll(0);
            play.loseAll(1);
            play.x.connect(false);
            due.is("waits", play.x.side(0, 7), 0);
            play.handshake();
            due.is("waits", play.x.side(0, 7), 0);
            due.is("READY", play.x.side(0, 2) + play.x.side(1, 2), 2);
            due.is("server expects", play.x.side(1, 8), 2);
            due.is("client's segments", play.x.side(0, 5), 2);
        }
    }

    private static void sixteenOfWaiting(Due due) {
        Play play = Play.ready();
        for (int i = 0; i < 11; i++) {
            play.x.update(0);
        }
        due.is("waits", play.x.side(0, 7), 56);
        play.x.disturb(0, 1);
        play.x.disturb(0, 1);
        play.x.disturb(0, 1);
        play.deliverAll(0);
        play.loseAll(1);
        due.is("all of the window came", play.x.side(1, 8), 6);
        play.x.tick(5);
        play.x.deliver(0);
        due.is("GOT of an old one tells all", play.seen(1, 0), Play.told(1, 3, 6, 0));
        play.loseAll(0);
        play.x.deliver(1);
        due.is("four more", play.x.flying(0), 4);
        for (int k = 0; k < 4; k++) {
            due.is("number", play.x.datagram(0, k, 2), 6 + k);
            due.is("length", play.x.datagram(0, k, 4), k < 3 ? 16 : 8);
        }
        play.settle();
        due.is("not failed", play.x.side(1, 3), -1);
        due.is("confirmed", play.x.side(0, 6), 10);
    }
}

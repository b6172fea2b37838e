/** The sentences of DATAGRAMS and of promises 7 to 11, each by itself. */
public final class EdgeLineTest {
    private static final int MIN = Integer.MIN_VALUE;
    private static final int MAX = Integer.MAX_VALUE;
    private static final int[] NO_DIRECTION = {-1, 2, MIN, MAX};

    public static void main(String[] args) {
        Due due = new Due("EdgeLineTest");
        twelfth(due);
        inOrder(due);
        openLost(due);
        openedLost(due);
        dataLost(due);
        gotLost(due);
        kinds(due);
        sixteenBytes(due);
        notTold(due);
        deliverRefused(due);
        deliverKinds(due);
        disturbRefused(due);
        disturbFull(due);
        disturbAlone(due);
        alterRefused(due);
        alterEdges(due);
        alterFirstOnly(due);
        flying(due);
        datagramRefused(due);
        due.end();
    }

    /** Copies the first until 12 are on the way. */
    private static void fill(Play play, int direction) {
        for (int i = play.x.flying(direction); i < 12; i++) {
            play.x.disturb(direction, 2);
        }
    }

    private static void twelfth(Due due) {
        due.sentence("In each direction (0 from the client to the server, 1 back) at most 12 are on the way");
        Play play = new Play(1, 2, 3);
        play.x.connect(false);
        for (int i = 0; i < 10; i++) {
            play.x.disturb(0, 2);
        }
        due.is("flying(0)", play.x.flying(0), 11);
        play.x.tick(5);
        due.is("the twelfth is sent", play.x.flying(0), 12);
        play.x.tick(5);
        due.is("the thirteenth is lost", play.x.flying(0), 12);
        due.is("nothing is back", play.x.flying(1), 0);
        for (int n = 1; n <= 12; n++) {
            play.x.deliver(0);
            due.is("each direction has 12 for itself", play.x.flying(1), n);
        }
        due.is("none is left", play.x.flying(0), 0);
    }

    private static void inOrder(Due due) {
        due.sentence("at most 12 are on the way, in order");
        Play play = Play.ready();
        for (int i = 0; i < 4; i++) {
            play.x.update(0);
        }
        play.x.update(1);
        play.x.deliver(1);
        due.is("GOT is the last", play.x.datagram(0, 4, 1), 3);
        for (int k = 0; k < 4; k++) {
            due.is("number of " + k, play.x.datagram(0, k, 2), 2 + k);
        }
        for (int k = 0; k < 4; k++) {
            due.is("DATA", play.x.deliver(0), 2);
            due.is("expected", play.x.side(1, 8), 3 + k);
        }
        due.is("GOT", play.x.deliver(0), 3);
    }

    private static void openLost(Due due) {
        due.sentence("one that is sent when there are 12 is lost: OPEN");
        Play play = Play.ready();
        play.x.close(0);
        fill(play, 0);
        due.is("connect", play.x.connect(false), 2);
        due.is("flying", play.x.flying(0), 12);
        for (int k = 0; k < 12; k++) {
            due.is("kind", play.x.datagram(0, k, 1), 2);
        }
        due.is("OPENING all the same", play.x.side(0, 1), 1);
    }

    private static void openedLost(Due due) {
        due.sentence("one that is sent when there are 12 is lost: OPENED");
        Play play = new Play(1, 2, 3);
        play.x.connect(false);
        play.x.disturb(0, 2);
        play.x.deliver(0);
        fill(play, 1);
        due.is("OPEN", play.x.deliver(0), 0);
        due.is("flying", play.x.flying(1), 12);
        due.is("UP", play.x.side(1, 1), 2);
    }

    private static void dataLost(Due due) {
        due.sentence("one that is sent when there are 12 is lost: DATA");
        Play play = Play.ready();
        play.x.update(0);
        fill(play, 0);
        due.is("update", play.x.update(0), true);
        due.is("made", play.x.side(0, 5), 4);
        due.is("nothing waits", play.x.side(0, 7), 0);
        due.is("flying", play.x.flying(0), 12);
        due.is("the last is the copy", play.x.datagram(0, 11, 2), 2);
        play.loseAll(0);
        play.x.tick(5);
        due.is("it is sent again", play.x.datagram(0, 1, 2), 3);
    }

    private static void gotLost(Due due) {
        due.sentence("one that is sent when there are 12 is lost: GOT");
        Play play = Play.ready();
        play.x.update(1);
        fill(play, 1);
        play.x.update(0);
        play.x.deliver(0);
        due.is("flying", play.x.flying(1), 12);
        due.is("the last is the copy", play.x.datagram(1, 11, 1), 2);
        due.is("taken all the same", play.x.side(1, 8), 3);
        due.is("not confirmed", play.x.side(0, 6), 2);
    }

    private static void kinds(Due due) {
        due.sentence("Kinds: 0 OPEN, 1 OPENED, 2 DATA (number of the segment, its bytes), 3 GOT, 4 RESET.");
        Play play = new Play(1, 2, 3);
        play.x.connect(false);
        due.is("OPEN", play.x.datagram(0, 0, 1), 0);
        play.x.deliver(0);
        due.is("OPENED", play.x.datagram(1, 0, 1), 1);
        play.x.deliver(1);
        due.is("DATA", play.x.datagram(0, 0, 1), 2);
        play.x.deliver(0);
        due.is("GOT", play.x.datagram(1, 0, 1), 3);
        play.loseAll(1);
        play.x.tick(30);
        due.is("RESET", play.x.datagram(1, play.x.flying(1) - 1, 1), 4);
    }

    private static void sixteenBytes(Due due) {
        due.sentence("DATAGRAMS have a connection (1 .. 255), a kind, a number, a bit row, and 0 to 16 bytes.");
        Play play = new Play(1, 2, 3);
        play.x.connect(false);
        due.is("OPEN has none", play.x.datagram(0, 0, 4), 0);
        due.is("byte 0 of none", play.x.datagram(0, 0, 5), -1);
        due.is("its connection", play.x.datagram(0, 0, 0), 1);
        play.x.deliver(0);
        play.x.deliver(1);
        due.is("the hello has 16", play.x.datagram(0, 0, 4), 16);
        due.is("byte 15 is there", play.x.datagram(0, 0, 20) >= 0, true);
        due.is("byte 16", play.x.datagram(0, 0, 21), -1);
        play = Play.withRoom(0, 2);
        due.is("what waits is cut at 16", play.x.datagram(0, 0, 4) + play.x.datagram(0, 1, 4), 32);
    }

    private static void notTold(Due due) {
        due.sentence("Numbers and bits that are not told are 0.");
        Play play = Play.ready();
        play.x.update(0);
        due.is("bits of DATA", play.x.datagram(0, 0, 3), 0);
        play.loseAll(0);
        play.x.tick(30);
        int last = play.x.flying(0) - 1;
        due.is("RESET", play.seen(0, last), Play.told(1, 4, 0, 0));
        play.x.connect(false);
        due.is("OPEN", play.seen(0, last + 1), Play.told(2, 0, 0, 0));
        while (play.x.datagram(0, 0, 1) != 0) {
            play.x.disturb(0, 0);
        }
        play.x.deliver(0);
        due.is("OPENED", play.seen(1, 0), Play.told(2, 1, 0, 0));
    }

    private static void deliverRefused(Due due) {
        due.sentence("deliver. Refused (NONE): there is no such direction or datagram.");
        Play play = new Play(1, 2, 3);
        due.is("deliver(0) on a new object", play.x.deliver(0), -1);
        play.x.connect(false);
        String before = play.state();
        for (int direction : NO_DIRECTION) {
            due.is("deliver(" + direction + ")", play.x.deliver(direction), -1);
        }
        due.is("deliver(1), none there", play.x.deliver(1), -1);
        due.is("all is as before", play.state(), before);
        due.is("deliver(0)", play.x.deliver(0), 0);
        due.is("deliver(0) again", play.x.deliver(0), -1);
    }

    private static void deliverKinds(Due due) {
        due.sentence("The first datagram of a direction arrives. Answers its kind.");
        Play play = new Play(1, 2, 3);
        play.x.connect(false);
        due.is("OPEN", play.x.deliver(0), 0);
        due.is("it is gone", play.x.flying(0), 0);
        due.is("OPENED", play.x.deliver(1), 1);
        due.is("DATA", play.x.deliver(0), 2);
        due.is("GOT", play.x.deliver(1), 3);
        play.loseAll(1);
        play.x.tick(30);
        while (play.x.flying(1) > 1) {
            play.x.disturb(1, 0);
        }
        due.is("RESET", play.x.deliver(1), 4);
        due.is("it did what it does", play.x.side(0, 1), 3);
    }

    private static void disturbRefused(Due due) {
        due.sentence("disturb. Refused: there is no such direction or datagram, how is not 0 .. 2");
        Play play = new Play(1, 2, 3);
        play.x.connect(false);
        play.x.disturb(0, 2);
        String before = play.state();
        for (int direction : NO_DIRECTION) {
            for (int how = 0; how <= 2; how++) {
                due.is("disturb(" + direction + ", " + how + ")", play.x.disturb(direction, how), false);
            }
        }
        for (int how = 0; how <= 2; how++) {
            due.is("disturb(1, " + how + "), none there", play.x.disturb(1, how), false);
        }
        for (int how : new int[] {-1, 3, MIN, MAX}) {
            due.is("disturb(0, " + how + ")", play.x.disturb(0, how), false);
        }
        due.is("all is as before", play.state(), before);
    }

    private static void disturbFull(Due due) {
        due.sentence("disturb. Refused: .. or (2) there are 12.");
        for (int direction = 0; direction < 2; direction++) {
            Play play = Play.ready();
            play.x.update(direction);
            for (int n = 2; n <= 12; n++) {
                due.is("copy " + n, play.x.disturb(direction, 2), true);
            }
            due.is("copy 13", play.x.disturb(direction, 2), false);
            due.is("flying", play.x.flying(direction), 12);
            due.is("goes behind at 12", play.x.disturb(direction, 1), true);
            due.is("flying", play.x.flying(direction), 12);
            due.is("lost at 12", play.x.disturb(direction, 0), true);
            due.is("copy at 11", play.x.disturb(direction, 2), true);
            due.is("flying", play.x.flying(direction), 12);
        }
    }

    private static void disturbAlone(Due due) {
        due.sentence("is lost (how 0), goes behind all others (1), or gets a copy behind all others (2): true");
        Play play = Play.ready();
        play.x.update(0);
        String alone = play.seen(0, 0);
        due.is("behind no others", play.x.disturb(0, 1), true);
        due.is("it is there", play.seen(0, 0), alone);
        due.is("a copy", play.x.disturb(0, 2), true);
        due.is("the copy", play.seen(0, 1), alone);
        play.x.update(0);
        String second = play.seen(0, 2);
        due.is("behind all", play.x.disturb(0, 1), true);
        due.is("the order", play.seen(0, 0) + play.seen(0, 1) + play.seen(0, 2), alone + second + alone);
        due.is("a copy behind all", play.x.disturb(0, 2), true);
        due.is("the order", play.seen(0, 1) + play.seen(0, 2) + play.seen(0, 3), second + alone + alone);
        due.is("the first is lost", play.x.disturb(0, 0), true);
        due.is("the order", play.seen(0, 0) + play.seen(0, 1) + play.seen(0, 2), second + alone + alone);
        due.is("three", play.x.flying(0), 3);
    }

    private static void alterRefused(Due due) {
        due.sentence("alter. Refused: there is no such direction, datagram or byte, or mask is not 1 .. 255.");
        Play play = new Play(1, 2, 3);
        play.untilServerHello();
        String before = play.seen(1, 0);
        for (int direction : NO_DIRECTION) {
            due.is("alter(" + direction + ", 0, 1)", play.x.alter(direction, 0, 1), false);
        }
        due.is("alter(0, 0, 1), none there", play.x.alter(0, 0, 1), false);
        for (int k : new int[] {-1, 11, 12, 15, 16, MIN, MAX}) {
            due.is("alter(1, " + k + ", 1) of 11 bytes", play.x.alter(1, k, 1), false);
        }
        for (int mask : new int[] {0, -1, 256, 257, MIN, MAX}) {
            due.is("alter(1, 0, " + mask + ")", play.x.alter(1, 0, mask), false);
        }
        due.is("all bytes are as before", play.seen(1, 0), before);
        play = new Play(1, 2, 3);
        play.x.connect(false);
        due.is("a datagram without bytes", play.x.alter(0, 0, 1), false);
        play = new Play(1, 2, 3);
        play.untilClientHello();
        due.is("byte 16 of 16", play.x.alter(0, 16, 1), false);
    }

    private static void alterEdges(Due due) {
        due.sentence("Of the first datagram of a direction byte k (k 0 .. 15) becomes itself ^ mask: true.");
        Play play = new Play(1, 2, 3);
        play.untilClientHello();
        for (int k : new int[] {0, 15}) {
            for (int mask : new int[] {1, 128, 255}) {
                int before = play.x.datagram(0, 0, 5 + k);
                due.is("alter(0, " + k + ", " + mask + ")", play.x.alter(0, k, mask), true);
                due.is("byte " + k, play.x.datagram(0, 0, 5 + k), before ^ mask);
            }
        }
    }

    private static void alterFirstOnly(Due due) {
        due.sentence("Of the first datagram of a direction");
        Play play = Play.ready();
        play.x.update(0);
        play.x.disturb(0, 2);
        String before = play.seen(0, 0);
        due.is("alter", play.x.alter(0, 5, 9), true);
        due.is("a copy is another one", play.seen(0, 1), before);
        due.is("the number stays", play.x.datagram(0, 0, 2), 2);
        due.is("the length stays", play.x.datagram(0, 0, 4), 8);
        play.loseAll(0);
        play.x.tick(5);
        due.is("what is sent again is not altered", play.seen(0, 0), before);
    }

    private static void flying(Due due) {
        due.sentence("How many datagrams are on the way in a direction; NONE when there is no such direction.");
        Play play = new Play(1, 2, 3);
        due.is("flying(0)", play.x.flying(0), 0);
        due.is("flying(1)", play.x.flying(1), 0);
        play.x.connect(false);
        due.is("flying(0)", play.x.flying(0), 1);
        fill(play, 0);
        due.is("flying(0)", play.x.flying(0), 12);
        due.is("flying(1)", play.x.flying(1), 0);
        for (int direction : NO_DIRECTION) {
            due.is("flying(" + direction + ")", play.x.flying(direction), -1);
        }
    }

    private static void datagramRefused(Due due) {
        due.sentence("datagram. NONE when there is no such direction, datagram or byte.");
        Play play = new Play(1, 2, 3);
        due.is("on a new object", play.x.datagram(0, 0, 0), -1);
        play.untilServerHello();
        for (int direction : NO_DIRECTION) {
            due.is("direction " + direction, play.x.datagram(direction, 0, 0), -1);
        }
        due.is("datagram(0, 0, 0), none there", play.x.datagram(0, 0, 0), -1);
        due.is("the last", play.x.datagram(1, 1, 0), 1);
        for (int k : new int[] {-1, 2, 3, 11, 12, MIN, MAX}) {
            due.is("datagram " + k + " of 2", play.x.datagram(1, k, 0), -1);
        }
        due.is("byte 10 of 11", play.x.datagram(1, 0, 15) >= 0, true);
        for (int what : new int[] {16, 17, 20, 21, 22, MAX, -1, -5, MIN}) {
            due.is("what " + what + " of 11 bytes", play.x.datagram(1, 0, what), -1);
        }
        play.x.disturb(1, 1);
        fill(play, 1);
        due.is("the twelfth", play.x.datagram(1, 11, 0), 1);
        due.is("the thirteenth", play.x.datagram(1, 12, 0), -1);
    }
}

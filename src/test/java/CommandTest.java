/** Promises 2, 13 and 14: command, answer, stored; and 15 as far as it tells of commands. */
public final class CommandTest {
    private static final int GET = 0;
    private static final int PUT = 1;
    private static final int DELETE = 2;
    private static final int SWAP = 3;

    public static void main(String[] args) {
        Due due = new Due("CommandTest");
        refused(due);
        sixty(due);
        operations(due);
        onTheWire(due);
        oneAtATime(due);
        due.end();
    }

    private static void refused(Due due) {
        Counted x = new Counted(1, 2, 3);
        int[][] wrong = {{-1, 0, 0, 0}, {4, 0, 0, 0}, {0, -1, 0, 0}, {0, 16, 0, 0}, {0, 0, -1, 0},
            {0, 0, 65536, 0}, {0, 0, 0, -1}, {0, 0, 0, 65536}, {Integer.MIN_VALUE, 0, 0, 0}, {0, Integer.MAX_VALUE, 0, 0}};
        for (int[] w : wrong) {
            due.is("command" + java.util.Arrays.toString(w), x.command(w[0], w[1], w[2], w[3]), -1);
        }
        due.is("about(0)", x.about(0), 0);
        due.is("command at the lower edges", x.command(0, 0, 0, 0), 1);
        due.is("command at the upper edges", x.command(3, 15, 65535, 65535), 2);
        due.is("answer(1, 0)", x.answer(1, 0), 0);
        due.is("answer(1, 1)", x.answer(1, 1), -1);
        due.is("answer(1, 2)", x.answer(1, 2), -1);
        due.is("answer(1, 3)", x.answer(1, 3), -1);
        due.is("answer(1, -1)", x.answer(1, -1), -1);
        due.is("answer(0, 0)", x.answer(0, 0), -1);
        due.is("answer(3, 0)", x.answer(3, 0), -1);
        due.is("answer(MAX, 0)", x.answer(Integer.MAX_VALUE, 0), -1);
        due.is("answer(MIN, 0)", x.answer(Integer.MIN_VALUE, 0), -1);
        due.is("stored(-1)", x.stored(-1), -1);
        due.is("stored(16)", x.stored(16), -1);
        due.is("stored(MIN)", x.stored(Integer.MIN_VALUE), -1);
    }

    private static void sixty(Due due) {
        Play play = new Play(4, 5, 6);
        for (int n = 1; n <= 60; n++) {
            due.is("command " + n, play.x.command(PUT, n % 16, 1000 + n, 0), n);
        }
        due.is("command 61", play.x.command(PUT, 0, 0, 0), -1);
        due.is("about(0)", play.x.about(0), 60);
        play.x.connect(false);
        play.settle();
        due.is("about(1)", play.x.about(1), 60);
        due.is("answer(60, 0)", play.x.answer(60, 0), 1);
        due.is("answer(60, 2)", play.x.answer(60, 2), 1044);
        due.is("stored(12)", play.x.stored(12), 1060);
        due.is("stored(13)", play.x.stored(13), 1045);
        due.is("about(4)", play.x.about(4), 0);
        due.is("answer(61, 0)", play.x.answer(61, 0), -1);
    }

    private static void operations(Due due) {
        int[][] rows = {
            // operation, key, value, old, due: result, value of the answer, then stored
            {GET, 7, 9, 9, 0, 0, -1}, {DELETE, 7, 9, 9, 0, 0, -1}, {SWAP, 7, 9, 0, 0, 0, -1},
            {PUT, 7, 65535, 1, 0, 0, 65535}, {GET, 7, 0, 0, 1, 65535, 65535}, {PUT, 7, 256, 0, 1, 65535, 256},
            {SWAP, 7, 8, 255, 0, 256, 256}, {SWAP, 7, 8, 256, 1, 256, 8}, {GET, 6, 0, 0, 0, 0, -1},
            {GET, 7, 0, 0, 1, 8, 8}, {DELETE, 7, 0, 0, 1, 8, -1}, {GET, 7, 0, 0, 0, 0, -1},
            {PUT, 7, 0, 0, 0, 0, 0}, {GET, 7, 0, 0, 1, 0, 0}, {SWAP, 7, 3, 0, 1, 0, 3},
            {PUT, 15, 4, 0, 0, 0, 4}, {PUT, 0, 5, 0, 0, 0, 5}};
        Play play = Play.ready();
        for (int i = 0; i < rows.length; i++) {
            int[] r = rows[i];
            String call = "command " + (i + 1) + " " + java.util.Arrays.toString(r);
            due.is(call, play.x.command(r[0], r[1], r[2], r[3]), i + 1);
            play.settle();
            due.is(call + " answered", play.x.answer(i + 1, 0), 1);
            due.is(call + " result", play.x.answer(i + 1, 1), r[4]);
            due.is(call + " value", play.x.answer(i + 1, 2), r[5]);
            due.is(call + " stored", play.x.stored(r[1]), r[6]);
            due.is("about(1)", play.x.about(1), i + 1);
        }
        due.is("stored(7)", play.x.stored(7), 3);
        due.is("answer(1, 3)", play.x.answer(1, 3), -1);
        due.is("answer(1, -1)", play.x.answer(1, -1), -1);
        due.is("answer(1, MIN)", play.x.answer(1, Integer.MIN_VALUE), -1);
    }

    private static void onTheWire(Due due) {
        Play play = Play.ready();
        Keys keys = Keys.ready();
        play.x.command(SWAP, 9, 0x1234, 0xABCD);
        due.is("the command", play.seen(0, 0), Play.told(1, 2, 2, 0,
            Reckon.sealed(keys.session[0], 0, 23, 1, 3, 9, 0x12, 0x34, 0xAB, 0xCD)));
        play.x.command(PUT, 9, 0x1234, 0);
        play.settle();
        play.x.command(GET, 9, 0, 0);
        play.x.deliver(0);
        due.is("the answer", play.seen(1, 1), Play.told(1, 2, 5, 0,
            Reckon.sealed(keys.session[1], 3, 23, 3, 1, 0x12, 0x34)));
    }

    private static void oneAtATime(Due due) {
        Play play = Play.ready();
        play.x.command(PUT, 1, 10, 0);
        play.x.command(PUT, 1, 11, 0);
        due.is("flying(0)", play.x.flying(0), 1);
        due.is("about(4)", play.x.about(4), 1);
        play.x.deliver(0);
        due.is("about(1)", play.x.about(1), 1);
        due.is("about(4) before the answer", play.x.about(4), 1);
        play.x.deliver(1);
        play.x.deliver(1);
        due.is("about(4) behind the answer", play.x.about(4), 2);
        due.is("answer(1, 0)", play.x.answer(1, 0), 1);
        due.is("answer(2, 0)", play.x.answer(2, 0), 0);
        play.settle();
        due.is("about(4) in the end", play.x.about(4), 0);
        due.is("stored(1)", play.x.stored(1), 11);
    }
}

/** The sentences of RECORDS, each by itself. */
public final class EdgeRecordTest {
    private static final Keys KEYS = Keys.ready();

    public static void main(String[] args) {
        Due due = new Due("EdgeRecordTest");
        oneBehindTheOther(due);
        types(due);
        lengths(due);
        lengthForty(due);
        bothBytes(due);
        asAWhole(due);
        overSegments(due);
        asSoonAs(due);
        plainBytes(due);
        covered(due);
        tagBytes(due);
        fewerThanFive(due);
        exactlyFive(due);
        anotherTag(due);
        anotherByte(due);
        anotherNumber(due);
        anotherKey(due);
        numberSealed(due);
        numberOpened(due);
        numberNotOpened(due);
        numberZeroHandshake(due);
        numberZeroUpdate(due);
        innerTypes(due);
        due.end();
    }

    private static int[] sealed(int side, int n, int inner, int... content) {
        return Reckon.sealed(Play.forgeKey(side), n, inner, content);
    }

    /** How a side that is READY is CLOSED behind these bytes, NONE if it is not. */
    private static int code(int reader, int... bytes) {
        Play play = Play.withRoom(1 - reader, (bytes.length + 15) / 16);
        play.forge(1 - reader, bytes);
        return play.x.side(reader, 3);
    }

    private static void oneBehindTheOther(Due due) {
        due.sentence("RECORDS lie one behind the other in a stream: a type, a length 1 .. 40, so many bytes");
        for (int reader = 0; reader < 2; reader++) {
            int side = 1 - reader;
            long next = Keys.next(Play.forgeKey(side));
            Play play = Play.withRoom(side, 1);
            play.forge(side, Reckon.join(sealed(side, 0, 22, 24), Reckon.sealed(next, 0, 22, 24)));
            due.is("two of 8 bytes in one segment", play.is(reader), "2 1 -1");
            due.is("both were read", play.x.side(reader, 10), 0);
            play = Play.withRoom(side, 1);
            play.forge(side, Reckon.join(sealed(side, 0, 22, 24), Reckon.sealed(next, 0, 21, 5)));
            due.is("the second is read with the next key", play.x.side(reader, 3), 256 + 5);
        }
    }

    private static void types(Due due) {
        due.sentence("when both bytes are there and another type or length stands there, the side fails with 50 (type)");
        for (int reader = 0; reader < 2; reader++) {
            for (int type : new int[] {0, 1, 20, 24, 25, 127, 128, 149, 150, 151, 255}) {
                due.is("type " + type + " at " + reader, code(reader, type, 6), 50);
            }
            due.is("type 21 at " + reader, code(reader, 21, 1, 0), 10);
            due.is("type 22 at " + reader, code(reader, 22, 1, 0), 10);
            due.is("type 23 at " + reader, code(reader, 23, 1, 0), 20);
        }
    }

    private static void lengths(Due due) {
        due.sentence("when both bytes are there and another type or length stands there, the side fails with 50 (length)");
        for (int reader = 0; reader < 2; reader++) {
            for (int type = 21; type <= 23; type++) {
                for (int length : new int[] {0, 41, 42, 127, 128, 255}) {
                    due.is("length " + length + " of " + type + " at " + reader, code(reader, type, length), 50);
                }
            }
            due.is("length 1", code(reader, 22, 1, 9), 10);
            due.is("length 40 is waited for", code(reader, 22, 40, 9), -1);
        }
    }

    private static void lengthForty(Due due) {
        due.sentence("a length 1 .. 40, so many bytes");
        for (int reader = 0; reader < 2; reader++) {
            int side = 1 - reader;
            int[] record = sealed(side, 0, 23, new int[35]);
            due.is("its length", record[1], 40);
            Play play = Play.withRoom(side, 3);
            play.forge(side, java.util.Arrays.copyOf(record, 32));
            due.is("32 of 42 bytes", play.x.side(reader, 3), -1);
            play.forge(side, java.util.Arrays.copyOfRange(record, 32, 42));
            due.is("opened, but no such DATA", play.x.side(reader, 3), reader == 1 ? 50 : 10);
            due.is("it counts as opened", play.x.side(reader, 10), 1);
        }
    }

    /** Two answers and a ticket have 31 bytes: behind them one byte is left of two segments. */
    private static Play oneByteLeft(int last) {
        Play play = Play.ready();
        play.x.command(0, 0, 0, 0);
        play.x.command(0, 0, 0, 0);
        play.loseAll(0);
        for (int i = 0; i < 8; i++) {
            play.x.update(1);
        }
        play.deliverAll(1);
        play.deliverAll(0);
        play.forge(1, Reckon.join(sealed(1, 0, 23, 1, 0, 0, 0), sealed(1, 1, 23, 2, 0, 0, 0),
            sealed(1, 2, 22, 4, 9), Reckon.bytes(last)));
        return play;
    }

    private static void bothBytes(Due due) {
        due.sentence("when both bytes are there");
        for (int type : new int[] {0, 20, 24, 255}) {
            Play play = oneByteLeft(type);
            due.is("what stands before was read", play.x.answer(2, 0) + play.x.about(3), 10);
            due.is("another type alone", play.x.side(0, 3), -1);
            play.x.update(1);
            play.x.deliver(1);
            due.is("with its length", play.x.side(0, 3), 50);
        }
        for (int length : new int[] {0, 41}) {
            Play play = oneByteLeft(23);
            due.is("a type alone", play.x.side(0, 3), -1);
            play.x.update(1);
            play.write(1, length);
            play.x.deliver(1);
            due.is("length " + length, play.x.side(0, 3), 50);
        }
        int[] command = sealed(0, 0, 23, 1, 1, 1, 0, 1, 0, 0);
        due.is("14 bytes of a segment", command.length, 14);
        int[][] heads = {{20, 5}, {24, 5}, {23, 0}, {22, 41}};
        for (int[] head : heads) {
            Play play = Play.withRoom(0, 1);
            play.forge(0, Reckon.join(command, head));
            due.is("what stands before was read", play.x.about(1), 1);
            due.is("both bytes " + head[0] + " " + head[1] + " and nothing behind them", play.x.side(1, 3), 50);
        }
        Play play = Play.withRoom(0, 1);
        play.forge(0, Reckon.join(command, Reckon.bytes(23, 1)));
        due.is("both bytes 23 1 and nothing behind them", play.x.side(1, 3), -1);
        play = oneByteLeft(23);
        play.x.update(1);
        play.write(1, 7);
        play.x.deliver(1);
        due.is("length 7 of which 7 came", play.x.side(0, 3), 20);
    }

    private static void asAWhole(Due due) {
        due.sentence("A side READS a record as soon as it is there as a whole (not before)");
        for (int length = 6; length <= 15; length++) {
            Play play = Play.ready();
            play.x.update(0);
            play.x.update(0);
            play.write(0, 22, length);
            play.x.deliver(0);
            due.is("8 bytes of " + (2 + length), play.x.side(1, 3), length == 6 ? 10 : -1);
            play.x.deliver(0);
            due.is("16 bytes of " + (2 + length), play.x.side(1, 3), length <= 14 ? 10 : -1);
        }
    }

    private static void overSegments(Due due) {
        due.sentence("RECORDS lie one behind the other in a stream (over the ends of segments)");
        for (int reader = 0; reader < 2; reader++) {
            int side = 1 - reader;
            int[] whole = sealed(side, 0, 22, 24);
            long key = Keys.next(Play.forgeKey(side));
            for (int i = 0; i < 5; i++) {
                whole = Reckon.join(whole, Reckon.sealed(key, 0, 22, 24));
                key = Keys.next(key);
            }
            Play play = Play.withRoom(side, 4);
            play.forge(side, Reckon.join(whole, Reckon.sealed(key, 0, 21, 99, 1)));
            due.is("six key updates, then no ALERT", play.x.side(reader, 3), 10);
        }
    }

    private static void asSoonAs(Due due) {
        due.sentence("A side READS a record as soon as it is there as a whole");
        Play play = Play.ready();
        for (int i = 0; i < 5; i++) {
            play.x.update(0);
        }
        play.x.command(1, 2, 3, 0);
        play.deliverAll(0);
        play.deliverAll(1);
        due.is("two segments of one stream", play.x.datagram(0, 0, 4) * 100 + play.x.datagram(0, 1, 4), 1606);
        play.x.deliver(0);
        due.is("8 of 14 bytes of the command", play.x.about(1), 0);
        play.x.deliver(0);
        due.is("all of them", play.x.about(1), 1);
        due.is("the answer is sent at once", play.x.datagram(1, 2, 4), 11);
    }

    private static void plainBytes(Due due) {
        due.sentence("the plain bytes are the content and the inner type");
        Play play = Play.ready();
        play.x.update(0);
        due.is("content of 1 byte", play.x.datagram(0, 0, 4), 2 + 1 + 1 + 4);
        due.is("type", play.x.datagram(0, 0, 5), 23);
        due.is("length", play.x.datagram(0, 0, 6), 6);
        long key = KEYS.session[0];
        due.is("content", play.x.datagram(0, 0, 7) ^ (int) (play.x.fold(key, 0, 0) & 255), 24);
        due.is("inner type behind it", play.x.datagram(0, 0, 8) ^ (int) (play.x.fold(key, 0, 1) & 255), 22);
    }

    private static void covered(Due due) {
        due.sentence("byte i becomes itself ^ (FOLD(K, n, i) & 255)");
        Play play = Play.ready();
        play.x.command(3, 9, 0xFFFF, 0x8000);
        int[] plain = {1, 3, 9, 255, 255, 128, 0, 23};
        for (int i = 0; i < plain.length; i++) {
            int cover = (int) (play.x.fold(KEYS.session[0], 0, i) & 255);
            due.is("byte " + i, play.x.datagram(0, 0, 7 + i), plain[i] ^ cover);
        }
        play.settle();
        play.x.update(0);
        due.is("byte 0 with number 1", play.x.datagram(0, 0, 7), 24 ^ (int) (play.x.fold(KEYS.session[0], 1, 0) & 255));
    }

    private static void tagBytes(Due due) {
        due.sentence("behind these come the four bytes of the TAG, the word of FOLD(K, n, 100, these bytes one by one)");
        Play play = Play.ready();
        play.x.update(1);
        int[] covered = {play.x.datagram(1, 0, 7), play.x.datagram(1, 0, 8)};
        int[] tag = Reckon.word((int) Reckon.fold(KEYS.session[1], 1, 100, covered[0], covered[1]));
        for (int i = 0; i < 4; i++) {
            due.is("byte " + i + " of the tag", play.x.datagram(1, 0, 9 + i), tag[i]);
        }
        due.is("nothing behind it", play.x.datagram(1, 0, 13), -1);
    }

    private static void fewerThanFive(Due due) {
        due.sentence("that fails if there are fewer than 5 bytes");
        for (int reader = 0; reader < 2; reader++) {
            for (int length = 1; length <= 4; length++) {
                due.is(length + " bytes at " + reader, code(reader, 23, length, 0, 0, 0, 0), 20);
                int[] tag = Reckon.word((int) Reckon.fold(Play.forgeKey(1 - reader), 0, 100));
                int[] end = java.util.Arrays.copyOfRange(tag, 4 - length, 4);
                Play play = Play.withRoom(1 - reader, 1);
                play.forge(1 - reader, Reckon.join(Reckon.bytes(23, length), end));
                due.is(length + " bytes of the empty tag", play.x.side(reader, 3), 20);
                due.is("nothing was opened", play.x.side(reader, 10), 0);
            }
        }
    }

    private static void exactlyFive(Due due) {
        due.sentence("fewer than 5 bytes: with 5 it is opened");
        for (int reader = 0; reader < 2; reader++) {
            int[] record = sealed(1 - reader, 0, 22);
            due.is("its length", record[1], 5);
            Play play = Play.withRoom(1 - reader, 1);
            play.forge(1 - reader, record);
            due.is("an empty content", play.x.side(reader, 3), 10);
            due.is("it was opened", play.x.side(reader, 10), 1);
        }
    }

    private static void anotherTag(Due due) {
        due.sentence("or the tag is another one");
        for (int reader = 0; reader < 2; reader++) {
            for (int k = 4; k < 8; k++) {
                for (int mask : new int[] {1, 128}) {
                    Play play = Play.ready();
                    play.x.update(1 - reader);
                    play.x.alter(1 - reader, k, mask);
                    play.x.deliver(1 - reader);
                    due.is("byte " + (k - 4) + " of the tag ^ " + mask, play.x.side(reader, 3), 20);
                }
            }
        }
    }

    private static void anotherByte(Due due) {
        due.sentence("FOLD(K, n, 100, these bytes one by one): each byte counts");
        for (int k = 2; k < 10; k++) {
            Play play = Play.ready();
            play.x.command(1, 1, 1, 1);
            play.x.alter(0, k, 16);
            play.x.deliver(0);
            due.is("byte " + k, play.x.side(1, 3), 20);
            due.is("not carried out", play.x.about(1), 0);
        }
    }

    private static void anotherNumber(Due due) {
        due.sentence("To SEAL .. with a key K, sequence number n: a record that was read cannot be read again");
        Play play = Play.withRoom(0, 2);
        int[] command = sealed(0, 0, 23, 1, 1, 1, 0, 1, 0, 0);
        play.forge(0, Reckon.join(command, command));
        due.is("the same record again", play.x.side(1, 3), 20);
        due.is("carried out once", play.x.about(1), 1);
        play = Play.withRoom(0, 1);
        play.forge(0, sealed(0, 1, 22, 24));
        due.is("a later number", play.x.side(1, 3), 20);
    }

    private static void anotherKey(Due due) {
        due.sentence("Each way has a key");
        for (int reader = 0; reader < 2; reader++) {
            int side = 1 - reader;
            due.is("the other way's", code(reader, Reckon.sealed(Play.forgeKey(reader), 0, 22, 24)), 20);
            due.is("the next", code(reader, Reckon.sealed(Keys.next(Play.forgeKey(side)), 0, 22, 24)), 20);
            due.is("the first", code(reader, Reckon.sealed(KEYS.session[side], 0, 22, 24)), 20);
            due.is("its own", code(reader, sealed(side, 0, 22, 24)), -1);
        }
    }

    private static void numberSealed(Due due) {
        due.sentence("a sequence number, which grows by 1 with every record that is sealed");
        Play play = Play.ready();
        due.is("the client's way", play.x.side(0, 9), 0);
        due.is("the server's way: the ticket", play.x.side(1, 9), 1);
        for (int n = 1; n <= 3; n++) {
            play.x.command(0, 0, 0, 0);
            due.is("the client's " + n, play.x.side(0, 9), n);
            play.settle();
            due.is("the server's " + n, play.x.side(1, 9), 1 + n);
        }
        play.x.close(0);
        due.is("an ALERT", play.x.side(0, 9), 4);
        play = new Play(1, 2, 3);
        play.untilClientHello();
        play.write(0, 22, 14, 9);
        play.x.deliver(0);
        due.is("a plain ALERT is not sealed", play.x.side(1, 9), 0);
    }

    private static void numberOpened(Due due) {
        due.sentence("and with every one that is opened");
        Play play = Play.ready();
        due.is("of the server's way: the ticket", play.x.side(0, 10), 1);
        due.is("of the client's way", play.x.side(1, 10), 0);
        for (int n = 1; n <= 3; n++) {
            play.x.command(0, 0, 0, 0);
            due.is("not before it came", play.x.side(1, 10), n - 1);
            play.settle();
            due.is("of the client's way " + n, play.x.side(1, 10), n);
            due.is("of the server's way " + n, play.x.side(0, 10), 1 + n);
        }
        play.x.close(1);
        play.settle();
        due.is("an ALERT", play.x.side(0, 10), 5);
        for (int[] content : new int[][] {{25}, {9, 9}}) {
            play = Play.withRoom(0, 1);
            play.forge(0, sealed(0, 0, 22, content));
            due.is("one that is refused", play.x.side(1, 3), 10);
            due.is("counts", play.x.side(1, 10), 1);
        }
    }

    private static void numberNotOpened(Due due) {
        due.sentence("(not with one whose opening fails)");
        for (int reader = 0; reader < 2; reader++) {
            Play play = Play.ready();
            int before = play.x.side(reader, 10);
            play.x.update(1 - reader);
            play.x.alter(1 - reader, 7, 1);
            play.x.deliver(1 - reader);
            due.is("CLOSED", play.x.side(reader, 3), 20);
            due.is("number", play.x.side(reader, 10), before);
            play = Play.withRoom(1 - reader, 1);
            play.forge(1 - reader, 23, 4, 1, 1, 1, 1);
            due.is("number behind 4 bytes", play.x.side(reader, 10), 0);
        }
    }

    private static void numberZeroHandshake(Due due) {
        due.sentence("both change where it is said (the number is 0 then): the handshake");
        Play play = new Play(1, 2, 3);
        play.untilClientHello();
        play.x.deliver(0);
        due.is("the server has sent FINISHED, number 0 of the next key", play.x.side(1, 9), 0);
        play.x.deliver(1);
        play.x.deliver(1);
        play.x.deliver(1);
        due.is("the client has sent FINISHED", play.x.side(0, 9), 0);
        due.is("the client has read FINISHED", play.x.side(0, 10), 0);
        play.x.deliver(0);
        play.x.deliver(0);
        play.x.deliver(0);
        due.is("the server has read FINISHED", play.x.side(1, 10), 0);
        due.is("and has sealed the ticket", play.x.side(1, 9), 1);
        play.settle();
        due.is("the client has read it", play.x.side(0, 10), 1);
    }

    private static void numberZeroUpdate(Due due) {
        due.sentence("both change where it is said (the number is 0 then): the byte 24");
        Play play = Play.ready();
        play.x.command(0, 0, 0, 0);
        play.settle();
        for (int side = 0; side < 2; side++) {
            due.is("before", play.x.side(side, 9) > 0 && play.x.side(1 - side, 10) > 0, true);
            play.x.update(side);
            due.is("sent", play.x.side(side, 9), 0);
            due.is("not read yet", play.x.side(1 - side, 10) > 0, true);
            play.settle();
            due.is("read", play.x.side(1 - side, 10), 0);
        }
    }

    private static void innerTypes(Due due) {
        due.sentence("Inner types: 21 ALERT, 22 HANDSHAKE, 23 DATA.");
        for (int reader = 0; reader < 2; reader++) {
            int side = 1 - reader;
            due.is("21", code(reader, sealed(side, 0, 21, 24)), 256 + 24);
            due.is("22", code(reader, sealed(side, 0, 22, 24)), -1);
            due.is("23", code(reader, sealed(side, 0, 23, 24)), reader == 1 ? 50 : 10);
            for (int inner : new int[] {0, 20, 24, 255}) {
                due.is("" + inner, code(reader, sealed(side, 0, inner, 24)), 10);
            }
        }
    }
}

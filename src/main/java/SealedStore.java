/**
 * A client that has commands for a store of a server, over datagrams that anybody may lose, hold
 * back, copy or alter. The words used here (side, way, record, to seal, to fail) are those of the
 * document. All rows are made in the constructor and used again: no call makes an object.
 */
public final class SealedStore {
    public static final int NONE = -1;

    private static final int OPEN = 0;
    private static final int OPENED = 1;
    private static final int DATA = 2;
    private static final int GOT = 3;
    private static final int RESET = 4;

    private static final int OPENING = 1;
    private static final int UP = 2;
    private static final int BROKEN = 3;

    /** What a side of a connection that is UP waits for. */
    private static final int AWAITS_HELLO = 0;
    private static final int AWAITS_FINISHED = 1;
    private static final int READY = 2;

    private static final int TYPE_ALERT = 21;
    private static final int TYPE_HELLO = 22;
    private static final int TYPE_SEALED = 23;
    private static final int INNER_ALERT = 21;
    private static final int INNER_HANDSHAKE = 22;
    private static final int INNER_DATA = 23;

    private static final int CLIENT_HELLO = 1;
    private static final int SERVER_HELLO = 2;
    private static final int TICKET = 4;
    private static final int FINISHED = 20;
    private static final int KEY_UPDATE = 24;

    private static final int CODE_CLOSE = 0;
    private static final int CODE_UNEXPECTED = 10;
    private static final int CODE_BAD_RECORD = 20;
    private static final int CODE_BAD_NUMBER = 47;
    private static final int CODE_BAD_FORM = 50;
    private static final int CODE_BAD_PROOF = 51;
    private static final int CODE_UNKNOWN_SECRET = 115;
    /** A side that was told a code is CLOSED with the code and this. */
    private static final int TOLD = 256;

    private static final int GET = 0;
    private static final int PUT = 1;
    private static final int DELETE = 2;
    private static final int SWAP = 3;

    private static final int PRIME = 2147483647;
    private static final int GENERATOR = 7;

    private static final int LINE_ROOM = 12;
    private static final int SEGMENT_ROOM = 16;
    private static final int WINDOW = 4;
    private static final int WINDOW_MASK = 3;
    private static final int PATIENCE = 5;
    private static final int MOST_TRIES = 6;

    private static final int HEADER = 2;
    private static final int RECORD_ROOM = 40;
    private static final int TAG_PLACE = 100;
    private static final int TAG_LENGTH = 4;
    /** A record that is not whole yet has under 42 bytes, and one datagram frees at most 64. */
    private static final int UNREAD_ROOM = 128;
    /** update is refused from 100 on; what else can come to wait in 512 calls is far below this. */
    private static final int WAITING_ROOM = 1024;
    private static final int UPDATE_LIMIT = 100;

    private static final int MOST_CONNECTIONS = 60;
    private static final int MOST_COMMANDS = 60;
    private static final int MOST_TICKETS = 20;
    private static final int MOST_TICKS = 50;
    private static final int KEYS = 16;
    private static final int MOST_VALUE = 65535;

    private final Line toServer;
    private final Line toClient;
    private final Client client;
    private final Server server;
    private int ticks;

    public SealedStore(int clientSeed, int serverSeed, int shared) {
        long secret = Mix.three(shared, 0, 0);
        toServer = new Line();
        toClient = new Line();
        client = new Client(clientSeed, toServer, secret);
        server = new Server(serverSeed, toClient, secret);
    }

    public int command(int operation, int key, int value, int old) {
        if (operation < GET || operation > SWAP || key < 0 || key >= KEYS) {
            return NONE;
        }
        if (value < 0 || value > MOST_VALUE || old < 0 || old > MOST_VALUE) {
            return NONE;
        }
        int number = client.addCommand(operation, key, value, old);
        client.sendDueCommand();
        return number;
    }

    public int connect(boolean ticket) {
        return client.beginConnection(ticket);
    }

    public boolean close(int side) {
        Side closing = sideOf(side);
        if (closing == null || !closing.talks()) {
            return false;
        }
        closing.fail(CODE_CLOSE);
        return true;
    }

    public boolean update(int side) {
        Side updating = sideOf(side);
        if (updating == null || !updating.talks() || updating.sender.waiting.length >= UPDATE_LIMIT) {
            return false;
        }
        updating.sendKeyUpdate();
        return true;
    }

    public int tick(int n) {
        if (n < 1 || n > MOST_TICKS) {
            return NONE;
        }
        for (int i = 0; i < n; i++) {
            client.passTime();
            server.passTime();
            ticks++;
        }
        return ticks;
    }

    public int deliver(int direction) {
        Line line = lineOf(direction);
        Datagram first = line == null ? null : line.at(0);
        if (line == null || first == null) {
            return NONE;
        }
        int kind = first.kind;
        Side side = direction == 0 ? server : client;
        side.arrive(first);
        line.dropFirst();
        for (int i = 0; i < UNREAD_ROOM && side.takeRecord(); i++) {
            int code = side.readRecord();
            if (code != NONE) {
                side.fail(code);
            }
            // Behind each record, not behind all: a later one of them may close the client.
            client.sendDueCommand();
        }
        return kind;
    }

    public boolean disturb(int direction, int how) {
        Line line = lineOf(direction);
        if (line == null || line.count < 1) {
            return false;
        }
        switch (how) {
            case 0:
                line.dropFirst();
                return true;
            case 1:
                line.moveFirstBehind();
                return true;
            case 2:
                return line.copyFirstBehind();
            default:
                return false;
        }
    }

    public boolean alter(int direction, int k, int mask) {
        Line line = lineOf(direction);
        Datagram first = line == null ? null : line.at(0);
        if (first == null || k < 0 || k >= first.bytes.length || mask < 1 || mask > 255) {
            return false;
        }
        first.bytes.set(k, first.bytes.at(k) ^ mask);
        return true;
    }

    public int flying(int direction) {
        Line line = lineOf(direction);
        return line == null ? NONE : line.count;
    }

    public int datagram(int direction, int k, int what) {
        Line line = lineOf(direction);
        Datagram found = line == null ? null : line.at(k);
        if (found == null || what < 0) {
            return NONE;
        }
        switch (what) {
            case 0:
                return found.connection;
            case 1:
                return found.kind;
            case 2:
                return found.number;
            case 3:
                return found.bits;
            case 4:
                return found.bytes.length;
            default:
                return found.bytes.at(what - 5);
        }
    }

    public int side(int side, int what) {
        Side asked = sideOf(side);
        if (asked == null || what < 0 || what > 10) {
            return NONE;
        }
        return what < 5 ? asked.aboutItself(what) : asked.aboutStreams(what);
    }

    public int answer(int n, int what) {
        return client.aboutAnswer(n, what);
    }

    public int stored(int key) {
        return key < 0 || key >= KEYS ? NONE : server.store[key];
    }

    public int about(int what) {
        switch (what) {
            case 0:
                return client.given;
            case 1:
                return server.lastNumber;
            case 2:
                return server.tickets;
            case 3:
                return client.ticket;
            case 4:
                return client.out;
            default:
                return NONE;
        }
    }

    public long fold(long a, long b, long c) {
        return Mix.three(a, b, c);
    }

    public int share(int x) {
        return x < 0 || x >= PRIME ? NONE : Mix.power(GENERATOR, x);
    }

    private Side sideOf(int side) {
        if (side == 0) {
            return client;
        }
        return side == 1 ? server : null;
    }

    private Line lineOf(int direction) {
        if (direction == 0) {
            return toServer;
        }
        return direction == 1 ? toClient : null;
    }

    /** FOLD, value by value, so that no row of longs has to be made for it; and powers mod P. */
    private static final class Mix {
        static final long START = -7046029254386353131L;

        static long with(long h, long v) {
            long mixed = (h ^ v) * -4417276706812531889L;
            return mixed ^ (mixed >>> 29);
        }

        static long end(long h) {
            long mixed = h * 1609587929392839161L;
            return mixed ^ (mixed >>> 32);
        }

        static long two(long a, long b) {
            return end(with(with(START, a), b));
        }

        static long three(long a, long b, long c) {
            return end(with(with(with(START, a), b), c));
        }

        static long withBytes(long h, Bytes bytes, int count) {
            long mixed = h;
            for (int i = 0; i < count; i++) {
                mixed = with(mixed, bytes.at(i));
            }
            return mixed;
        }

        static int power(int base, int exponent) {
            long result = 1;
            long square = base;
            for (int bit = 0; bit < 31; bit++) {
                if ((exponent >> bit & 1) == 1) {
                    result = result * square % PRIME;
                }
                square = square * square % PRIME;
            }
            return (int) result;
        }
    }

    /** A row of bytes that grows at its end, up to its room, and is taken from its front. */
    private static final class Bytes {
        private final int[] row;
        int length;

        Bytes(int room) {
            row = new int[Math.max(room, 0)];
        }

        void clear() {
            length = 0;
        }

        int at(int i) {
            return i < 0 || i >= length || i >= row.length ? NONE : row[i];
        }

        void set(int i, int value) {
            if (i >= 0 && i < length && i < row.length) {
                row[i] = value & 255;
            }
        }

        void put(int value) {
            if (length >= 0 && length < row.length) {
                row[length] = value & 255;
                length++;
            }
        }

        int pairAt(int i) {
            return at(i) << 8 | at(i + 1);
        }

        void putPair(int value) {
            put(value >>> 8);
            put(value);
        }

        int wordAt(int i) {
            return pairAt(i) << 16 | pairAt(i + 2);
        }

        void putWord(int value) {
            putPair(value >>> 16);
            putPair(value);
        }

        boolean hasRoom(int count) {
            return count <= row.length - length;
        }

        /** Puts count bytes of another row, from its byte first on; all or none. */
        void append(Bytes from, int first, int count) {
            if (first < 0 || count < 0 || first > from.length - count || !hasRoom(count)) {
                return;
            }
            System.arraycopy(from.row, first, row, length, count);
            length += count;
        }

        void dropFront(int count) {
            if (count < 0 || count > length) {
                return;
            }
            System.arraycopy(row, count, row, 0, length - count);
            length -= count;
        }

        void cutTo(int count) {
            if (count >= 0 && count < length) {
                length = count;
            }
        }
    }

    private static final class Datagram {
        int connection;
        int kind;
        int number;
        int bits;
        final Bytes bytes = new Bytes(SEGMENT_ROOM);
    }

    /** The datagrams on the way in one direction. Those behind count are free for the next. */
    private static final class Line {
        private final Datagram[] row = new Datagram[LINE_ROOM];
        int count;

        Line() {
            for (int i = 0; i < row.length; i++) {
                row[i] = new Datagram();
            }
        }

        Datagram at(int k) {
            return k < 0 || k >= count || k >= row.length ? null : row[k];
        }

        /** Sends a datagram; bytes is null where the kind has none. */
        void send(int connection, int kind, int number, int bits, Bytes bytes) {
            if (count < 0 || count >= row.length) {
                return;
            }
            Datagram sent = row[count];
            count++;
            sent.connection = connection;
            sent.kind = kind;
            sent.number = number;
            sent.bits = bits;
            sent.bytes.clear();
            if (bytes != null) {
                sent.bytes.append(bytes, 0, bytes.length);
            }
        }

        void moveFirstBehind() {
            Datagram first = at(0);
            if (first == null) {
                return;
            }
            for (int i = 1; i < count && i < row.length; i++) {
                row[i - 1] = row[i];
            }
            row[count - 1] = first;
        }

        void dropFirst() {
            if (count > 0) {
                moveFirstBehind();
                count--;
            }
        }

        boolean copyFirstBehind() {
            Datagram first = at(0);
            if (first == null || count >= row.length) {
                return false;
            }
            send(first.connection, first.kind, first.number, first.bits, first.bytes);
            return true;
        }
    }

    /** A side's own way of a connection. Segment n lies at n & WINDOW_MASK while it is out. */
    private static final class Sender {
        private final Line line;
        private final Bytes[] segments = new Bytes[WINDOW];
        private final int[] timers = new int[WINDOW];
        private final int[] tries = new int[WINDOW];
        private final boolean[] came = new boolean[WINDOW];
        private int connection;
        final Bytes waiting = new Bytes(WAITING_ROOM);
        int made;
        int confirmed;

        Sender(Line line) {
            this.line = line;
            for (int i = 0; i < segments.length; i++) {
                segments[i] = new Bytes(SEGMENT_ROOM);
            }
        }

        void restart(int number) {
            connection = number;
            waiting.clear();
            made = 0;
            confirmed = 0;
        }

        void addRecord(int type, Bytes content) {
            if (waiting.hasRoom(HEADER + content.length)) {
                waiting.put(type);
                waiting.put(content.length);
                waiting.append(content, 0, content.length);
            }
        }

        void sendWaiting() {
            for (; waiting.length > 0 && made - confirmed < WINDOW; made++) {
                int place = made & WINDOW_MASK;
                int count = Math.min(waiting.length, SEGMENT_ROOM);
                segments[place].clear();
                segments[place].append(waiting, 0, count);
                waiting.dropFront(count);
                timers[place] = PATIENCE;
                tries[place] = 1;
                came[place] = false;
                line.send(connection, DATA, made, 0, segments[place]);
            }
        }

        void confirm(int number, int bits) {
            if (number > made) {
                return;
            }
            for (int n = confirmed; n < made; n++) {
                int bit = n - number - 1;
                if (n < number || bit >= 0 && bit < WINDOW - 1 && (bits >> bit & 1) == 1) {
                    came[n & WINDOW_MASK] = true;
                }
            }
            for (; confirmed < made && came[confirmed & WINDOW_MASK]; confirmed++) {
                segments[confirmed & WINDOW_MASK].clear();
            }
            sendWaiting();
        }

        /** One tick; answers false when a segment was sent too often. */
        boolean passTime() {
            for (int n = confirmed; n < made; n++) {
                int place = n & WINDOW_MASK;
                if (came[place]) {
                    continue;
                }
                timers[place]--;
                if (timers[place] > 0) {
                    continue;
                }
                if (tries[place] >= MOST_TRIES) {
                    return false;
                }
                tries[place]++;
                timers[place] = PATIENCE;
                line.send(connection, DATA, n, 0, segments[place]);
            }
            return true;
        }
    }

    /** The other side's way of a connection. A kept segment n lies at n & WINDOW_MASK. */
    private static final class Receiver {
        private final Bytes[] kept = new Bytes[WINDOW];
        final Bytes unread = new Bytes(UNREAD_ROOM);
        int expected;

        Receiver() {
            for (int i = 0; i < kept.length; i++) {
                kept[i] = new Bytes(SEGMENT_ROOM);
            }
        }

        void restart() {
            for (int i = 0; i < kept.length; i++) {
                kept[i].clear();
            }
            unread.clear();
            expected = 0;
        }

        void keep(int number, Bytes bytes) {
            if (number < expected || number >= expected + WINDOW) {
                return;
            }
            Bytes place = kept[number & WINDOW_MASK];
            if (place.length == 0) {
                place.append(bytes, 0, bytes.length);
            }
            for (int i = 0; i < WINDOW && kept[expected & WINDOW_MASK].length > 0; i++) {
                Bytes next = kept[expected & WINDOW_MASK];
                unread.append(next, 0, next.length);
                next.clear();
                expected++;
            }
        }

        int bits() {
            int bits = 0;
            for (int i = 0; i < WINDOW - 1; i++) {
                if (kept[expected + 1 + i & WINDOW_MASK].length > 0) {
                    bits |= 1 << i;
                }
            }
            return bits;
        }
    }

    /** The key and the sequence number of one way, as one side has them. */
    private static final class Way {
        private long key;
        boolean keyed;
        int sequence;

        void forgetKey() {
            key = 0;
            keyed = false;
            sequence = 0;
        }

        void changeKey(long next) {
            key = next;
            keyed = true;
            sequence = 0;
        }

        void moveOn() {
            changeKey(Mix.three(key, 10, 0));
        }

        /** The content becomes what a SEALED record of it has. */
        void seal(Bytes content, int inner) {
            content.put(inner);
            cover(content);
            content.putWord(tag(content, content.length));
            sequence++;
        }

        /** The record becomes its content. Answers the inner type, NONE if opening fails. */
        int unseal(Bytes record) {
            int covered = record.length - TAG_LENGTH;
            if (covered < 1 || record.wordAt(covered) != tag(record, covered)) {
                return NONE;
            }
            record.cutTo(covered);
            cover(record);
            sequence++;
            int inner = record.at(covered - 1);
            record.cutTo(covered - 1);
            return inner;
        }

        private void cover(Bytes bytes) {
            long begun = Mix.with(Mix.with(Mix.START, key), sequence);
            for (int i = 0; i < bytes.length; i++) {
                bytes.set(i, bytes.at(i) ^ (int) Mix.end(Mix.with(begun, i)));
            }
        }

        private int tag(Bytes bytes, int count) {
            long begun = Mix.with(Mix.with(Mix.with(Mix.START, key), sequence), TAG_PLACE);
            return (int) Mix.end(Mix.withBytes(begun, bytes, count));
        }
    }

    /** What client and server have in common. Reading answers a code to fail with, NONE if fine. */
    private abstract static class Side {
        final int index;
        private final long seed;
        private final int openingKind;
        final Line line;
        final Sender sender;
        final Receiver receiver = new Receiver();
        final Way own = new Way();
        final Way other = new Way();
        final Bytes record = new Bytes(RECORD_ROOM);
        final Bytes content = new Bytes(RECORD_ROOM);
        private int recordType;
        private int draws;
        int number;
        int state;
        int phase;
        int closed = NONE;
        private long transcript = Mix.START;
        private long handshakeKey;
        long master;

        Side(int index, int seed, Line line) {
            this.index = index;
            this.seed = seed;
            this.line = line;
            openingKind = index == 0 ? OPENED : OPEN;
            sender = new Sender(line);
        }

        /** Reads a HELLO, while the side waits for one. */
        abstract int readHello();

        /** Reads the content of the other side's FINISHED, while the side waits for it. */
        abstract int readFinished();

        /** Reads a sealed handshake message that is no key update, when READY. */
        abstract int readTicket();

        /** Reads the session's DATA. */
        abstract int readData();

        /** OPEN arrives at the server, OPENED at the client. */
        abstract void arriveOpening(int connection);

        final boolean talks() {
            return state == UP && phase == READY && closed == NONE;
        }

        final void startConnection(int newNumber, int newState) {
            number = newNumber;
            state = newState;
            closed = NONE;
            forget();
        }

        final void breakConnection() {
            state = BROKEN;
            forget();
        }

        void forget() {
            sender.restart(number);
            receiver.restart();
            own.forgetKey();
            other.forgetKey();
            phase = AWAITS_HELLO;
            transcript = Mix.START;
            handshakeKey = 0;
            master = 0;
        }

        void passTime() {
            if (state == UP && !sender.passTime()) {
                line.send(number, RESET, 0, 0, null);
                breakConnection();
            }
        }

        final void arrive(Datagram arrived) {
            if (arrived.kind == openingKind) {
                arriveOpening(arrived.connection);
                return;
            }
            if (arrived.connection != number || state != OPENING && state != UP) {
                return;
            }
            if (arrived.kind == RESET) {
                breakConnection();
            } else if (state == UP && arrived.kind == DATA) {
                takeSegment(arrived);
            } else if (state == UP && arrived.kind == GOT) {
                sender.confirm(arrived.number, arrived.bits);
            }
        }

        private void takeSegment(Datagram arrived) {
            receiver.keep(arrived.number, arrived.bytes);
            if (closed != NONE) {
                receiver.unread.clear();
            }
            line.send(number, GOT, receiver.expected, receiver.bits(), null);
        }

        /** Takes the next record out of the stream, if it is there as a whole. */
        final boolean takeRecord() {
            Bytes unread = receiver.unread;
            if (state != UP || closed != NONE || unread.length < HEADER) {
                return false;
            }
            int type = unread.at(0);
            int count = unread.at(1);
            if (type < TYPE_ALERT || type > TYPE_SEALED || count < 1 || count > RECORD_ROOM) {
                fail(CODE_BAD_FORM);
                return false;
            }
            if (unread.length < HEADER + count) {
                return false;
            }
            recordType = type;
            record.clear();
            record.append(unread, HEADER, count);
            unread.dropFront(HEADER + count);
            return true;
        }

        final int readRecord() {
            if (recordType == TYPE_ALERT && record.length == 1 && !other.keyed) {
                closed = record.at(0) + TOLD;
                return NONE;
            }
            if (phase == AWAITS_HELLO) {
                return recordType == TYPE_HELLO ? readHello() : CODE_UNEXPECTED;
            }
            if (recordType != TYPE_SEALED) {
                return CODE_UNEXPECTED;
            }
            int inner = other.unseal(record);
            if (inner == NONE) {
                return CODE_BAD_RECORD;
            }
            if (inner == INNER_ALERT && record.length == 1) {
                closed = record.at(0) + TOLD;
                return NONE;
            }
            if (phase == AWAITS_FINISHED) {
                return inner == INNER_HANDSHAKE ? readFinished() : CODE_UNEXPECTED;
            }
            if (inner == INNER_HANDSHAKE) {
                return readHandshake();
            }
            return inner == INNER_DATA ? readData() : CODE_UNEXPECTED;
        }

        private int readHandshake() {
            if (record.length == 1 && record.at(0) == KEY_UPDATE) {
                other.moveOn();
                return NONE;
            }
            return readTicket();
        }

        final int judgeFinished() {
            if (record.length != 5 || record.at(0) != FINISHED) {
                return CODE_UNEXPECTED;
            }
            return record.wordAt(1) == finishedWord(1 - index) ? NONE : CODE_BAD_PROOF;
        }

        final void fail(int code) {
            content.clear();
            content.put(code);
            if (own.keyed) {
                sendSealed(INNER_ALERT);
            } else {
                sendPlain(TYPE_ALERT);
            }
            closed = code;
        }

        final void sendPlain(int type) {
            sender.addRecord(type, content);
            sender.sendWaiting();
        }

        final void sendSealed(int inner) {
            own.seal(content, inner);
            sender.addRecord(TYPE_SEALED, content);
            sender.sendWaiting();
        }

        final void sendKeyUpdate() {
            content.clear();
            content.put(KEY_UPDATE);
            sendSealed(INNER_HANDSHAKE);
            own.moveOn();
        }

        final int draw() {
            draws++;
            return (int) Mix.three(seed, index, draws);
        }

        final int drawExponent() {
            return 2 + (draw() >>> 1) % (PRIME - 3);
        }

        final void note(Bytes message) {
            transcript = Mix.withBytes(transcript, message, message.length);
        }

        /** Both hellos are noted: both ways get the keys of the handshake. */
        final void agree(long secret, int otherShare, int exponent) {
            long exchanged = Mix.three(secret, 1, Mix.power(otherShare, exponent));
            handshakeKey = Mix.three(exchanged, 3, Mix.end(transcript));
            own.changeKey(Mix.three(handshakeKey, 4, index));
            other.changeKey(Mix.three(handshakeKey, 4, 1 - index));
        }

        final int finishedWord(int sideIndex) {
            return (int) Mix.two(Mix.three(handshakeKey, 5, sideIndex), Mix.end(transcript));
        }

        final void writeFinished() {
            content.clear();
            content.put(FINISHED);
            content.putWord(finishedWord(index));
        }

        /** The server's FINISHED is noted. */
        final void deriveMaster() {
            master = Mix.three(handshakeKey, 6, Mix.end(transcript));
        }

        final long sessionKey(int sideIndex) {
            return Mix.three(master, 7, sideIndex);
        }

        static boolean isFairShare(int share) {
            return share >= 2 && share <= PRIME - 2;
        }

        static int proof(long secret, Bytes hello) {
            long begun = Mix.with(Mix.START, Mix.three(secret, 2, 0));
            return (int) Mix.end(Mix.withBytes(begun, hello, 10));
        }

        final int aboutItself(int what) {
            switch (what) {
                case 0:
                    return number;
                case 1:
                    return state;
                case 2:
                    return phase == READY ? 1 : 0;
                case 3:
                    return closed;
                case 4:
                    return draws;
                default:
                    return NONE;
            }
        }

        final int aboutStreams(int what) {
            if (state != UP) {
                return 0;
            }
            switch (what) {
                case 5:
                    return sender.made;
                case 6:
                    return sender.confirmed;
                case 7:
                    return sender.waiting.length;
                case 8:
                    return receiver.expected;
                case 9:
                    return own.sequence;
                case 10:
                    return other.sequence;
                default:
                    return NONE;
            }
        }
    }

    private static final class Command {
        int operation;
        int key;
        int value;
        int old;
        int result;
        int found;
    }

    /** The client: opens connections, and has the commands, which are answered in their order. */
    private static final class Client extends Side {
        private final long sharedSecret;
        private final Command[] commands = new Command[MOST_COMMANDS];
        private long ticketSecret;
        private long secret;
        private int secretNumber;
        private int exponent;
        private int timer;
        private int tries;
        private int answered;
        int given;
        int ticket;
        int out;

        Client(int seed, Line line, long sharedSecret) {
            super(0, seed, line);
            this.sharedSecret = sharedSecret;
            for (int i = 0; i < commands.length; i++) {
                commands[i] = new Command();
            }
        }

        int addCommand(int operation, int key, int value, int old) {
            if (given < 0 || given >= commands.length) {
                return NONE;
            }
            Command added = commands[given];
            added.operation = operation;
            added.key = key;
            added.value = value;
            added.old = old;
            given++;
            return given;
        }

        void sendDueCommand() {
            if (!talks() || out != 0 || answered >= given || answered >= commands.length) {
                return;
            }
            Command due = commands[answered];
            out = answered + 1;
            content.clear();
            content.put(out);
            content.put(due.operation);
            content.put(due.key);
            content.putPair(due.value);
            content.putPair(due.old);
            sendSealed(INNER_DATA);
        }

        int aboutAnswer(int n, int what) {
            if (n < 1 || n > given || n > commands.length || what < 0 || what > 2) {
                return NONE;
            }
            if (what == 0) {
                return n <= answered ? 1 : 0;
            }
            if (n > answered) {
                return NONE;
            }
            return what == 1 ? commands[n - 1].result : commands[n - 1].found;
        }

        int beginConnection(boolean withTicket) {
            if (state == OPENING || talks() || number >= MOST_CONNECTIONS) {
                return NONE;
            }
            startConnection(number + 1, OPENING);
            secretNumber = withTicket ? ticket : 0;
            secret = secretNumber == 0 ? sharedSecret : ticketSecret;
            tries = 1;
            timer = PATIENCE;
            line.send(number, OPEN, 0, 0, null);
            return number;
        }

        void forget() {
            super.forget();
            out = 0;
        }

        void passTime() {
            if (state != OPENING) {
                super.passTime();
                return;
            }
            timer--;
            if (timer > 0) {
                return;
            }
            if (tries >= MOST_TRIES) {
                breakConnection();
                return;
            }
            tries++;
            timer = PATIENCE;
            line.send(number, OPEN, 0, 0, null);
        }

        void arriveOpening(int connection) {
            if (connection == number && state == OPENING) {
                state = UP;
                writeHello();
                note(content);
                sendPlain(TYPE_HELLO);
            }
        }

        private void writeHello() {
            content.clear();
            content.put(CLIENT_HELLO);
            content.putWord(draw());
            exponent = drawExponent();
            content.putWord(Mix.power(GENERATOR, exponent));
            content.put(secretNumber);
            content.putWord(proof(secret, content));
        }

        int readHello() {
            if (record.length != 9 || record.at(0) != SERVER_HELLO) {
                return CODE_UNEXPECTED;
            }
            int share = record.wordAt(5);
            if (!isFairShare(share)) {
                return CODE_BAD_NUMBER;
            }
            note(record);
            agree(secret, share, exponent);
            phase = AWAITS_FINISHED;
            return NONE;
        }

        int readFinished() {
            int code = judgeFinished();
            if (code != NONE) {
                return code;
            }
            note(record);
            deriveMaster();
            other.changeKey(sessionKey(1));
            writeFinished();
            sendSealed(INNER_HANDSHAKE);
            own.changeKey(sessionKey(0));
            phase = READY;
            return NONE;
        }

        int readTicket() {
            int read = record.at(1);
            if (record.length != 2 || record.at(0) != TICKET || read < 1 || read > MOST_TICKETS) {
                return CODE_UNEXPECTED;
            }
            ticket = read;
            ticketSecret = Mix.three(master, 9, read);
            return NONE;
        }

        int readData() {
            if (record.length != 4 || out < 1 || out > commands.length || record.at(0) != out) {
                return CODE_UNEXPECTED;
            }
            Command done = commands[out - 1];
            done.result = record.at(1);
            done.found = record.pairAt(2);
            answered = out;
            out = 0;
            return NONE;
        }
    }

    /** The server: has the tickets' secrets and the store, which outlast connections. */
    private static final class Server extends Side {
        private final long[] secrets = new long[MOST_TICKETS + 1];
        private int lastResult;
        private int lastFound;
        final int[] store = new int[KEYS];
        int tickets;
        int lastNumber;

        Server(int seed, Line line, long sharedSecret) {
            super(1, seed, line);
            secrets[0] = sharedSecret;
            for (int i = 0; i < store.length; i++) {
                store[i] = NONE;
            }
        }

        void arriveOpening(int connection) {
            if (connection > number) {
                startConnection(connection, UP);
            }
            if (connection == number && state == UP) {
                line.send(number, OPENED, 0, 0, null);
            }
        }

        int readHello() {
            int code = judgeHello();
            if (code != NONE) {
                return code;
            }
            note(record);
            int exponent = writeHello();
            note(content);
            sendPlain(TYPE_HELLO);
            agree(secretOf(record.at(9)), record.wordAt(5), exponent);
            writeFinished();
            note(content);
            deriveMaster();
            sendSealed(INNER_HANDSHAKE);
            own.changeKey(sessionKey(1));
            phase = AWAITS_FINISHED;
            return NONE;
        }

        private int judgeHello() {
            if (record.length != 14 || record.at(0) != CLIENT_HELLO) {
                return CODE_UNEXPECTED;
            }
            if (record.at(9) > tickets) {
                return CODE_UNKNOWN_SECRET;
            }
            if (record.wordAt(10) != proof(secretOf(record.at(9)), record)) {
                return CODE_BAD_PROOF;
            }
            return isFairShare(record.wordAt(5)) ? NONE : CODE_BAD_NUMBER;
        }

        private long secretOf(int secretNumber) {
            return secretNumber < 0 || secretNumber >= secrets.length ? 0 : secrets[secretNumber];
        }

        /** Answers the exponent whose share the hello has. */
        private int writeHello() {
            content.clear();
            content.put(SERVER_HELLO);
            content.putWord(draw());
            int exponent = drawExponent();
            content.putWord(Mix.power(GENERATOR, exponent));
            return exponent;
        }

        int readFinished() {
            int code = judgeFinished();
            if (code != NONE) {
                return code;
            }
            other.changeKey(sessionKey(0));
            phase = READY;
            if (tickets < MOST_TICKETS) {
                writeTicket();
                sendSealed(INNER_HANDSHAKE);
            }
            return NONE;
        }

        private void writeTicket() {
            tickets++;
            if (tickets > 0 && tickets < secrets.length) {
                secrets[tickets] = Mix.three(master, 9, tickets);
            }
            content.clear();
            content.put(TICKET);
            content.put(tickets);
        }

        int readTicket() {
            return CODE_UNEXPECTED;
        }

        int readData() {
            int operation = record.at(1);
            int key = record.at(2);
            if (record.length != 7 || operation < GET || operation > SWAP || key < 0 || key >= KEYS) {
                return CODE_BAD_FORM;
            }
            int asked = record.at(0);
            if (asked == lastNumber + 1) {
                carryOut(operation, key, record.pairAt(3), record.pairAt(5));
                lastNumber = asked;
            } else if (asked != lastNumber || asked == 0) {
                return CODE_UNEXPECTED;
            }
            content.clear();
            content.put(lastNumber);
            content.put(lastResult);
            content.putPair(lastFound);
            sendSealed(INNER_DATA);
            return NONE;
        }

        private void carryOut(int operation, int key, int value, int old) {
            if (key < 0 || key >= store.length) {
                return;
            }
            int found = store[key];
            boolean holds = operation == SWAP ? found == old : found != NONE;
            if (operation == PUT || operation == SWAP && holds) {
                store[key] = value;
            } else if (operation == DELETE) {
                store[key] = NONE;
            }
            lastResult = holds ? 1 : 0;
            lastFound = found == NONE ? 0 : found;
        }
    }
}

import java.util.ArrayList;
import java.util.List;
import java.util.TreeMap;

/**
 * The document once more, written for plainness with lists that grow: FuzzTest compares the class
 * with it. A new Link is made for every connection, so nothing of an older one can stay behind.
 */
final class Model {
    static final int NONE = -1;

    static final class Dg {
        int connection;
        int kind;
        int number;
        int bits;
        int[] bytes = new int[0];

        Dg copy() {
            Dg d = new Dg();
            d.connection = connection;
            d.kind = kind;
            d.number = number;
            d.bits = bits;
            d.bytes = bytes.clone();
            return d;
        }
    }

    static final class Segment {
        int[] bytes;
        int timer = 5;
        int tries = 1;
        boolean confirmed;
    }

    /** One side's end of one connection. */
    static final class Link {
        int number;
        int state;
        boolean ready;
        int closed = NONE;
        int openTimer = 5;
        int openTries = 1;
        final List<Segment> segments = new ArrayList<>();
        final List<Integer> waiting = new ArrayList<>();
        final TreeMap<Integer, int[]> kept = new TreeMap<>();
        int expected;
        final List<Integer> unread = new ArrayList<>();
        Long ownKey;
        Long otherKey;
        int ownSequence;
        int otherSequence;
        String waitsFor = "hello";
        final List<Integer> transcript = new ArrayList<>();
        long secret;
        int secretNumber;
        int exponent;
        long h;
        long m;
        int commandOut;

        int firstNotConfirmed() {
            int n = 0;
            while (n < segments.size() && segments.get(n).confirmed) {
                n++;
            }
            return n;
        }
    }

    final int[] seeds;
    final int[] draws = new int[2];
    final List<List<Dg>> air = List.of(new ArrayList<>(), new ArrayList<>());
    final Link[] links = {new Link(), new Link()};
    final List<int[]> commands = new ArrayList<>();
    final List<int[]> answers = new ArrayList<>();
    final Integer[] store = new Integer[16];
    int lastNumber;
    int[] lastAnswer;
    final List<Long> secrets = new ArrayList<>();
    int ticketRead;
    long ticketSecret;
    int ticks;

    Model(int clientSeed, int serverSeed, int shared) {
        seeds = new int[] {clientSeed, serverSeed};
        secrets.add(Reckon.fold(shared, 0, 0));
    }

    // the calls

    int command(int operation, int key, int value, int old) {
        boolean fine = operation >= 0 && operation <= 3 && key >= 0 && key <= 15
            && value >= 0 && value <= 65535 && old >= 0 && old <= 65535 && commands.size() < 60;
        if (!fine) {
            return NONE;
        }
        commands.add(new int[] {operation, key, value, old});
        sendCommand();
        return commands.size();
    }

    int connect(boolean ticket) {
        Link old = links[0];
        if (old.state == 1 || old.ready && old.closed == NONE || old.number == 60) {
            return NONE;
        }
        Link link = new Link();
        link.number = old.number + 1;
        link.state = 1;
        boolean useTicket = ticket && ticketRead != 0;
        link.secretNumber = useTicket ? ticketRead : 0;
        link.secret = useTicket ? ticketSecret : secrets.get(0);
        links[0] = link;
        send(0, 0, 0, 0, new int[0]);
        return link.number;
    }

    private boolean mayTalk(int side) {
        return (side == 0 || side == 1) && links[side].ready && links[side].state == 2 && links[side].closed == NONE;
    }

    boolean close(int side) {
        if (!mayTalk(side)) {
            return false;
        }
        fail(side, 0);
        return true;
    }

    boolean update(int side) {
        if (!mayTalk(side) || links[side].waiting.size() >= 100) {
            return false;
        }
        sealAndSend(side, 22, 24);
        Link link = links[side];
        link.ownKey = Reckon.fold(link.ownKey, 10, 0);
        link.ownSequence = 0;
        return true;
    }

    int tick(int n) {
        if (n < 1 || n > 50) {
            return NONE;
        }
        for (int i = 0; i < n; i++) {
            tickSide(0);
            tickSide(1);
            ticks++;
        }
        return ticks;
    }

    int deliver(int direction) {
        if (direction != 0 && direction != 1 || air.get(direction).isEmpty()) {
            return NONE;
        }
        Dg d = air.get(direction).remove(0);
        arrives(1 - direction, d);
        return d.kind;
    }

    boolean disturb(int direction, int how) {
        if (direction != 0 && direction != 1 || air.get(direction).isEmpty() || how < 0 || how > 2) {
            return false;
        }
        List<Dg> line = air.get(direction);
        if (how == 2) {
            if (line.size() == 12) {
                return false;
            }
            line.add(line.get(0).copy());
            return true;
        }
        Dg first = line.remove(0);
        if (how == 1) {
            line.add(first);
        }
        return true;
    }

    boolean alter(int direction, int k, int mask) {
        if (direction != 0 && direction != 1 || air.get(direction).isEmpty() || mask < 1 || mask > 255) {
            return false;
        }
        int[] bytes = air.get(direction).get(0).bytes;
        if (k < 0 || k >= bytes.length) {
            return false;
        }
        bytes[k] ^= mask;
        return true;
    }

    int flying(int direction) {
        return direction == 0 || direction == 1 ? air.get(direction).size() : NONE;
    }

    int datagram(int direction, int k, int what) {
        if (direction != 0 && direction != 1 || k < 0 || k >= air.get(direction).size() || what < 0) {
            return NONE;
        }
        Dg d = air.get(direction).get(k);
        if (what >= 5) {
            return what - 5 < d.bytes.length ? d.bytes[what - 5] : NONE;
        }
        return new int[] {d.connection, d.kind, d.number, d.bits, d.bytes.length}[what];
    }

    int side(int side, int what) {
        if (side != 0 && side != 1 || what < 0 || what > 10) {
            return NONE;
        }
        Link l = links[side];
        if (what < 5) {
            return new int[] {l.number, l.state, l.ready ? 1 : 0, l.closed, draws[side]}[what];
        }
        if (l.state != 2) {
            return 0;
        }
        return new int[] {l.segments.size(), l.firstNotConfirmed(), l.waiting.size(), l.expected,
            l.ownSequence, l.otherSequence}[what - 5];
    }

    int answer(int n, int what) {
        if (n < 1 || n > commands.size() || what < 0 || what > 2) {
            return NONE;
        }
        boolean has = n <= answers.size();
        if (what == 0) {
            return has ? 1 : 0;
        }
        return has ? answers.get(n - 1)[what - 1] : NONE;
    }

    int stored(int key) {
        return key < 0 || key > 15 || store[key] == null ? NONE : store[key];
    }

    int about(int what) {
        if (what < 0 || what > 4) {
            return NONE;
        }
        return new int[] {commands.size(), lastNumber, secrets.size() - 1, ticketRead, links[0].commandOut}[what];
    }

    // datagrams and streams

    private void send(int side, int kind, int number, int bits, int[] bytes) {
        if (air.get(side).size() == 12) {
            return;
        }
        Dg d = new Dg();
        d.connection = links[side].number;
        d.kind = kind;
        d.number = number;
        d.bits = bits;
        d.bytes = bytes.clone();
        air.get(side).add(d);
    }

    private void putIntoStream(int side, int[] record) {
        for (int b : record) {
            links[side].waiting.add(b);
        }
        makeSegments(side);
    }

    private void makeSegments(int side) {
        Link link = links[side];
        while (!link.waiting.isEmpty() && link.segments.size() - link.firstNotConfirmed() < 4) {
            Segment segment = new Segment();
            segment.bytes = new int[Math.min(16, link.waiting.size())];
            for (int i = 0; i < segment.bytes.length; i++) {
                segment.bytes[i] = link.waiting.remove(0);
            }
            link.segments.add(segment);
            send(side, 2, link.segments.size() - 1, 0, segment.bytes);
        }
    }

    private void breaks(int side) {
        Link broken = new Link();
        broken.number = links[side].number;
        broken.closed = links[side].closed;
        broken.state = 3;
        links[side] = broken;
    }

    private void tickSide(int side) {
        Link link = links[side];
        if (link.state == 1) {
            link.openTimer--;
            if (link.openTimer == 0) {
                if (link.openTries == 6) {
                    breaks(side);
                } else {
                    send(side, 0, 0, 0, new int[0]);
                    link.openTries++;
                    link.openTimer = 5;
                }
            }
        } else if (link.state == 2) {
            for (int n = 0; n < link.segments.size(); n++) {
                Segment s = link.segments.get(n);
                if (s.confirmed) {
                    continue;
                }
                s.timer--;
                if (s.timer == 0) {
                    if (s.tries == 6) {
                        send(side, 4, 0, 0, new int[0]);
                        breaks(side);
                        return;
                    }
                    send(side, 2, n, 0, s.bytes);
                    s.tries++;
                    s.timer = 5;
                }
            }
        }
    }

    private void arrives(int side, Dg d) {
        if (d.kind == 0) {
            if (d.connection > links[1].number) {
                links[1] = new Link();
                links[1].number = d.connection;
                links[1].state = 2;
            }
            if (links[1].state == 2 && links[1].number == d.connection) {
                send(1, 1, 0, 0, new int[0]);
            }
            return;
        }
        Link link = links[side];
        if (d.connection != link.number) {
            return;
        }
        if (d.kind == 1 && link.state == 1) {
            link.state = 2;
            sendClientHello();
        } else if (d.kind == 2 && link.state == 2) {
            dataArrives(side, d);
        } else if (d.kind == 3 && link.state == 2) {
            gotArrives(side, d);
        } else if (d.kind == 4 && (link.state == 1 || link.state == 2)) {
            breaks(side);
        }
    }

    private void dataArrives(int side, Dg d) {
        Link link = links[side];
        boolean inWindow = d.number >= link.expected && d.number <= link.expected + 3;
        if (inWindow) {
            link.kept.putIfAbsent(d.number, d.bytes.clone());
            while (link.kept.containsKey(link.expected)) {
                for (int b : link.kept.remove(link.expected)) {
                    link.unread.add(b);
                }
                link.expected++;
            }
        }
        int bits = 0;
        for (int i = 0; i < 3; i++) {
            bits += link.kept.containsKey(link.expected + 1 + i) ? 1 << i : 0;
        }
        send(side, 3, link.expected, bits, new int[0]);
        if (inWindow) {
            reads(side);
        }
    }

    private void gotArrives(int side, Dg d) {
        Link link = links[side];
        if (d.number > link.segments.size()) {
            return;
        }
        for (int n = 0; n < d.number; n++) {
            link.segments.get(n).confirmed = true;
        }
        for (int i = 0; i < 3; i++) {
            int n = d.number + 1 + i;
            if ((d.bits & 1 << i) != 0 && n < link.segments.size()) {
                link.segments.get(n).confirmed = true;
            }
        }
        makeSegments(side);
    }

    // records

    private void reads(int side) {
        Link link = links[side];
        while (link.closed == NONE && link.unread.size() >= 2) {
            int type = link.unread.get(0);
            int length = link.unread.get(1);
            if (type != 21 && type != 22 && type != 23 || length == 0 || length > 40) {
                fail(side, 50);
                return;
            }
            if (link.unread.size() < 2 + length) {
                return;
            }
            int[] body = new int[length];
            for (int i = 0; i < length; i++) {
                body[i] = link.unread.get(2 + i);
            }
            link.unread.subList(0, 2 + length).clear();
            int code = read(side, type, body);
            if (code != NONE) {
                fail(side, code);
            }
        }
    }

    private int read(int side, int type, int[] body) {
        Link link = links[side];
        if (type == 21 && body.length == 1 && link.otherKey == null) {
            link.closed = body[0] + 256;
            return NONE;
        }
        if (link.waitsFor.equals("hello")) {
            if (type != 22) {
                return 10;
            }
            return side == 1 ? readClientHello(body) : readServerHello(body);
        }
        if (type != 23) {
            return 10;
        }
        int[] plain = open(link, body);
        if (plain == null) {
            return 20;
        }
        int inner = plain[plain.length - 1];
        int[] content = java.util.Arrays.copyOf(plain, plain.length - 1);
        if (inner == 21 && content.length == 1) {
            link.closed = content[0] + 256;
            return NONE;
        }
        if (link.waitsFor.equals("finished")) {
            if (inner != 22 || content.length != 5 || content[0] != 20) {
                return 10;
            }
            return side == 1 ? readClientFinished(content) : readServerFinished(content);
        }
        if (inner == 22) {
            return readReadyHandshake(side, content);
        }
        if (inner == 23) {
            return side == 1 ? readCommand(content) : readAnswer(content);
        }
        return 10;
    }

    private static int[] open(Link link, int[] body) {
        if (body.length < 5) {
            return null;
        }
        int[] covered = java.util.Arrays.copyOf(body, body.length - 4);
        int tag = (int) Reckon.foldBytes(covered, link.otherKey, link.otherSequence, 100);
        int[] tagBytes = Reckon.word(tag);
        for (int i = 0; i < 4; i++) {
            if (tagBytes[i] != body[covered.length + i]) {
                return null;
            }
        }
        for (int i = 0; i < covered.length; i++) {
            covered[i] ^= (int) (Reckon.fold(link.otherKey, link.otherSequence, i) & 255);
        }
        link.otherSequence++;
        return covered;
    }

    private void sealAndSend(int side, int inner, int... content) {
        Link link = links[side];
        int[] record = Reckon.sealed(link.ownKey, link.ownSequence, inner, content);
        link.ownSequence++;
        putIntoStream(side, record);
    }

    private void fail(int side, int code) {
        if (links[side].ownKey != null) {
            sealAndSend(side, 21, code);
        } else {
            putIntoStream(side, new int[] {21, 1, code});
        }
        links[side].closed = code;
    }

    // handshake

    private int draw(int side) {
        draws[side]++;
        return Reckon.drawn(seeds[side], side, draws[side]);
    }

    private void sendHello(int side, int[] hello) {
        note(side, hello);
        putIntoStream(side, Reckon.join(new int[] {22, hello.length}, hello));
    }

    private void note(int side, int[] message) {
        for (int b : message) {
            links[side].transcript.add(b);
        }
    }

    private long t(int side) {
        return Reckon.fold(links[side].transcript.stream().mapToLong(Integer::longValue).toArray());
    }

    private void sendClientHello() {
        Link link = links[0];
        int random = draw(0);
        link.exponent = Reckon.exponent(draw(0));
        sendHello(0, Reckon.clientHello(random, Reckon.power(7, link.exponent), link.secretNumber, link.secret));
    }

    private static int wordOf(int[] bytes, int at) {
        return bytes[at] << 24 | bytes[at + 1] << 16 | bytes[at + 2] << 8 | bytes[at + 3];
    }

    private int readClientHello(int[] body) {
        if (body.length != 14 || body[0] != 1) {
            return 10;
        }
        if (body[9] >= secrets.size()) {
            return 115;
        }
        long secret = secrets.get(body[9]);
        int[] due = Reckon.clientHello(wordOf(body, 1), wordOf(body, 5), body[9], secret);
        if (wordOf(due, 10) != wordOf(body, 10)) {
            return 51;
        }
        int share = wordOf(body, 5);
        if (share < 2 || share > Reckon.P - 2) {
            return 47;
        }
        note(1, body);
        int random = draw(1);
        int y = Reckon.exponent(draw(1));
        sendHello(1, Reckon.serverHello(random, Reckon.power(7, y)));
        Link link = links[1];
        keys(1, secret, Reckon.power(share, y));
        int[] finished = Reckon.join(Reckon.bytes(20), Reckon.word((int) Reckon.fold(Reckon.fold(link.h, 5, 1), t(1))));
        sealAndSend(1, 22, finished);
        note(1, finished);
        link.m = Reckon.fold(link.h, 6, t(1));
        link.ownKey = Reckon.fold(link.m, 7, 1);
        link.ownSequence = 0;
        link.waitsFor = "finished";
        return NONE;
    }

    private void keys(int side, long secret, int exchanged) {
        Link link = links[side];
        long e = Reckon.fold(secret, 1, exchanged);
        link.h = Reckon.fold(e, 3, t(side));
        link.ownKey = Reckon.fold(link.h, 4, side);
        link.otherKey = Reckon.fold(link.h, 4, 1 - side);
        link.ownSequence = 0;
        link.otherSequence = 0;
    }

    private int readServerHello(int[] body) {
        if (body.length != 9 || body[0] != 2) {
            return 10;
        }
        int share = wordOf(body, 5);
        if (share < 2 || share > Reckon.P - 2) {
            return 47;
        }
        note(0, body);
        keys(0, links[0].secret, Reckon.power(share, links[0].exponent));
        links[0].waitsFor = "finished";
        return NONE;
    }

    private int readServerFinished(int[] content) {
        Link link = links[0];
        if (wordOf(content, 1) != (int) Reckon.fold(Reckon.fold(link.h, 5, 1), t(0))) {
            return 51;
        }
        note(0, content);
        link.m = Reckon.fold(link.h, 6, t(0));
        link.otherKey = Reckon.fold(link.m, 7, 1);
        link.otherSequence = 0;
        int word = (int) Reckon.fold(Reckon.fold(link.h, 5, 0), t(0));
        sealAndSend(0, 22, Reckon.join(Reckon.bytes(20), Reckon.word(word)));
        link.ownKey = Reckon.fold(link.m, 7, 0);
        link.ownSequence = 0;
        link.ready = true;
        link.waitsFor = "all";
        sendCommand();
        return NONE;
    }

    private int readClientFinished(int[] content) {
        Link link = links[1];
        if (wordOf(content, 1) != (int) Reckon.fold(Reckon.fold(link.h, 5, 0), t(1))) {
            return 51;
        }
        link.otherKey = Reckon.fold(link.m, 7, 0);
        link.otherSequence = 0;
        link.ready = true;
        link.waitsFor = "all";
        if (secrets.size() <= 20) {
            int number = secrets.size();
            secrets.add(Reckon.fold(link.m, 9, number));
            sealAndSend(1, 22, 4, number);
        }
        return NONE;
    }

    private int readReadyHandshake(int side, int[] content) {
        Link link = links[side];
        if (content.length == 1 && content[0] == 24) {
            link.otherKey = Reckon.fold(link.otherKey, 10, 0);
            link.otherSequence = 0;
            return NONE;
        }
        if (side == 0 && content.length == 2 && content[0] == 4 && content[1] >= 1 && content[1] <= 20) {
            ticketRead = content[1];
            ticketSecret = Reckon.fold(link.m, 9, ticketRead);
            return NONE;
        }
        return 10;
    }

    // session

    private void sendCommand() {
        Link link = links[0];
        if (!mayTalk(0) || link.commandOut != 0 || answers.size() == commands.size()) {
            return;
        }
        int number = answers.size() + 1;
        int[] c = commands.get(number - 1);
        link.commandOut = number;
        sealAndSend(0, 23, number, c[0], c[1], c[2] >> 8, c[2] & 255, c[3] >> 8, c[3] & 255);
    }

    private int readCommand(int[] c) {
        if (c.length != 7 || c[1] > 3 || c[2] > 15) {
            return 50;
        }
        if (c[0] == lastNumber && c[0] != 0) {
            sealAndSend(1, 23, lastAnswer);
            return NONE;
        }
        if (c[0] != lastNumber + 1) {
            return 10;
        }
        int key = c[2];
        int value = c[3] * 256 + c[4];
        int old = c[5] * 256 + c[6];
        Integer had = store[key];
        int result = had == null ? 0 : 1;
        if (c[1] == 1) {
            store[key] = value;
        } else if (c[1] == 2) {
            store[key] = null;
        } else if (c[1] == 3) {
            result = had != null && had == old ? 1 : 0;
            if (result == 1) {
                store[key] = value;
            }
        }
        int told = had == null ? 0 : had;
        lastNumber = c[0];
        lastAnswer = new int[] {c[0], result, told / 256, told % 256};
        sealAndSend(1, 23, lastAnswer);
        return NONE;
    }

    private int readAnswer(int[] content) {
        Link link = links[0];
        if (content.length != 4 || link.commandOut == 0 || content[0] != link.commandOut) {
            return 10;
        }
        answers.add(new int[] {content[1], content[2] * 256 + content[3]});
        link.commandOut = 0;
        sendCommand();
        return NONE;
    }
}

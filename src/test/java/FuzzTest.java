import java.util.Random;

/**
 * All promises: runs of calls drawn at random from fixed seeds, in manners from an honest line to a
 * forger who knows every key; each answer is compared with Model, and in the end, with what is left
 * of the 512 calls, the state that can be seen.
 */
public final class FuzzTest {
    /** What the calls of one step and the state without its datagrams take at most. */
    private static final int KEPT_FOR_THE_END = 80;
    private static final int HONEST = 0;
    private static final int LOSSY = 1;
    private static final int ALTERING = 2;
    private static final int STALLED = 3;
    private static final int FORGING = 4;
    private static final int RECONNECTING = 5;
    private static final int WILD = 6;
    private static final int MANNERS = 7;
    private static final int[] ODD = {-2147483648, -1, 0, 1, 2, 3, 4, 5, 10, 11, 12, 15, 16, 17, 50, 51, 60, 61, 255, 256, 65535, 65536, 2147483647};

    private final Due due;
    private final Random random;
    private final int manner;
    private final String run;
    private final Counted x;
    private final Model m;

    private FuzzTest(Due due, int run) {
        this.due = due;
        this.run = "run " + run + ": ";
        random = new Random(run);
        manner = run % MANNERS;
        int a = random.nextInt();
        int b = random.nextInt();
        int c = random.nextInt();
        x = new Counted(a, b, c);
        m = new Model(a, b, c);
    }

    public static void main(String[] args) {
        Due due = new Due("FuzzTest");
        int runs = args.length > 0 ? Integer.parseInt(args[0]) : 14000;
        for (int i = 0; i < runs; i++) {
            new FuzzTest(due, i).play();
        }
        due.end();
    }

    private void is(String call, long got, long want) {
        if (got != want) {
            due.is(run + call, got, want);
        }
    }

    private void play() {
        int left = KEPT_FOR_THE_END + random.nextInt(random.nextBoolean() ? 400 : 150);
        while (x.callsLeft() > left) {
            step();
        }
        due.is(run + "ticks", x.tick(1), m.tick(1));
        compareAll();
    }

    private void step() {
        int dice = random.nextInt(100);
        if (manner == WILD && dice < 50) {
            oddCall();
            return;
        }
        if (manner == FORGING && dice < 30) {
            forge(random.nextInt(2));
        }
        if (manner == LOSSY && dice < 15 || manner == ALTERING && dice < 5) {
            disturb(random.nextInt(2), random.nextInt(3));
        } else if (manner == ALTERING && dice < 9) {
            alter(random.nextInt(2), random.nextInt(16), 1 << random.nextInt(8));
        } else if (manner == STALLED && dice < 40) {
            update(random.nextInt(2));
        } else if (manner == RECONNECTING && dice < 6) {
            close(random.nextInt(2));
        } else {
            usualCall(random.nextInt(100));
        }
    }

    private void usualCall(int dice) {
        if (dice < 6) {
            command(random.nextInt(4), random.nextInt(3), random.nextInt(4), random.nextInt(4));
        } else if (dice < 12) {
            connect(random.nextInt(3) > 0);
        } else if (dice < 13) {
            close(random.nextInt(2));
        } else if (dice < 16) {
            update(random.nextInt(2));
        } else if (dice < 22) {
            tick(1 + random.nextInt(manner == LOSSY ? 9 : 3));
        } else if (manner == STALLED && dice < 60) {
            deliver(random.nextInt(8) == 0 ? 1 : 0);
        } else {
            deliver(random.nextInt(2));
        }
    }

    private int odd() {
        return ODD[random.nextInt(ODD.length)];
    }

    private void oddCall() {
        switch (random.nextInt(12)) {
            case 0 -> command(odd(), odd(), odd(), odd());
            case 1 -> close(random.nextInt(4) == 0 ? odd() : 2);
            case 2 -> update(odd());
            case 3 -> tick(random.nextInt(4) == 0 ? odd() : 0);
            case 4 -> deliver(odd());
            case 5 -> disturb(odd(), odd());
            case 6 -> alter(random.nextInt(3), odd(), odd());
            case 7 -> datagram(odd(), odd(), odd());
            case 8 -> side(odd(), odd());
            case 9 -> answer(odd(), odd());
            case 10 -> stored(odd());
            default -> about(odd());
        }
    }

    /** Makes the first datagram a record of the same length that the receiver can open, or a fit hello. */
    private void forge(int direction) {
        if (m.air.get(direction).isEmpty()) {
            return;
        }
        Model.Dg d = m.air.get(direction).get(0);
        Model.Link link = m.links[1 - direction];
        boolean next = link.state == 2 && d.connection == link.number && d.kind == 2 && d.number == link.expected;
        if (!next || !link.unread.isEmpty()) {
            return;
        }
        if (link.otherKey == null) {
            forgeHello(direction, d, link);
            return;
        }
        int room = Math.max(0, d.bytes.length - 7);
        int[] content = new int[random.nextInt(8) == 0 ? random.nextInt(room + 1) : room];
        int inner = 20 + random.nextInt(5);
        int[] firsts = {0, 1, 2, 4, 20, 24, m.lastNumber, m.lastNumber + 1, m.links[0].commandOut};
        for (int i = 0; i < content.length; i++) {
            content[i] = i == 0 ? firsts[random.nextInt(firsts.length)] : random.nextInt(i == 1 ? 6 : 18);
        }
        write(direction, d, Reckon.sealed(link.otherKey, link.otherSequence, inner, content));
    }

    private void forgeHello(int direction, Model.Dg d, Model.Link link) {
        int[] shares = {0, 1, 2, 7, Reckon.P - 2, Reckon.P - 1, Reckon.P, -1, Integer.MIN_VALUE};
        int share = shares[random.nextInt(shares.length)];
        int number = random.nextInt(m.secrets.size() + 1);
        long secret = m.secrets.get(Math.min(number, m.secrets.size() - 1));
        int[] hello = direction == 0 ? Reckon.clientHello(random.nextInt(), share, number, secret)
            : Reckon.serverHello(random.nextInt(), share);
        if (random.nextInt(6) == 0) {
            hello[0]++;
        }
        if (random.nextInt(2) == 0) {
            write(direction, d, Reckon.join(Reckon.bytes(22 - random.nextInt(9) / 8, hello.length), hello));
        } else if (random.nextInt(6) == 0) {
            write(direction, d, Reckon.bytes(21, 1 + random.nextInt(2), random.nextInt(256), 21, 1, 9));
        }
    }

    private void write(int direction, Model.Dg d, int[] bytes) {
        for (int k = 0; k < bytes.length && k < d.bytes.length; k++) {
            if (d.bytes[k] != bytes[k]) {
                alter(direction, k, d.bytes[k] ^ bytes[k]);
            }
        }
    }

    private void command(int operation, int key, int value, int old) {
        is("command", x.command(operation, key, value, old), m.command(operation, key, value, old));
    }

    private void connect(boolean ticket) {
        is("connect", x.connect(ticket), m.connect(ticket));
    }

    private void close(int side) {
        is("close", x.close(side) ? 1 : 0, m.close(side) ? 1 : 0);
    }

    private void update(int side) {
        is("update", x.update(side) ? 1 : 0, m.update(side) ? 1 : 0);
    }

    private void tick(int n) {
        is("tick", x.tick(n), m.tick(n));
    }

    private void deliver(int direction) {
        is("deliver", x.deliver(direction), m.deliver(direction));
    }

    private void disturb(int direction, int how) {
        is("disturb", x.disturb(direction, how) ? 1 : 0, m.disturb(direction, how) ? 1 : 0);
    }

    private void alter(int direction, int k, int mask) {
        is("alter", x.alter(direction, k, mask) ? 1 : 0, m.alter(direction, k, mask) ? 1 : 0);
    }

    private void datagram(int direction, int k, int what) {
        is("datagram", x.datagram(direction, k, what), m.datagram(direction, k, what));
    }

    private void side(int side, int what) {
        is("side(" + side + ", " + what + ")", x.side(side, what), m.side(side, what));
    }

    private void answer(int n, int what) {
        is("answer", x.answer(n, what), m.answer(n, what));
    }

    private void stored(int key) {
        is("stored", x.stored(key), m.stored(key));
    }

    private void about(int what) {
        is("about", x.about(what), m.about(what));
    }

    private void compareAll() {
        for (int side = 0; side < 2; side++) {
            for (int what = 0; what < 11; what++) {
                side(side, what);
            }
            is("flying", x.flying(side), m.flying(side));
        }
        for (int what = 0; what < 5; what++) {
            about(what);
        }
        for (int key = 0; key < 16; key++) {
            stored(key);
        }
        for (int n = m.commands.size(); n > 0 && x.callsLeft() > 3; n--) {
            answer(n, 0);
            answer(n, 1);
            answer(n, 2);
        }
        for (int k = 11; k >= 0; k--) {
            compareDatagram(0, k);
            compareDatagram(1, k);
        }
    }

    private void compareDatagram(int direction, int k) {
        boolean there = k < m.flying(direction);
        for (int what = 0; there && what < 5 + m.datagram(direction, k, 4) && x.callsLeft() > 0; what++) {
            datagram(direction, k, what);
        }
    }
}

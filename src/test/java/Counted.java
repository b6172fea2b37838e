/** A SealedStore that counts the calls of a test, since nothing is promised behind the 512th. */
final class Counted {
    static final int MOST_CALLS = 512;

    private final SealedStore store;
    private int calls;

    Counted(int clientSeed, int serverSeed, int shared) {
        store = new SealedStore(clientSeed, serverSeed, shared);
    }

    /** The object itself, for Inside. */
    SealedStore bare() {
        return store;
    }

    int callsLeft() {
        return MOST_CALLS - calls;
    }

    private SealedStore counted() {
        calls++;
        if (calls > MOST_CALLS) {
            throw new IllegalStateException("the test makes more than 512 calls on one object");
        }
        return store;
    }

    int command(int operation, int key, int value, int old) {
        return counted().command(operation, key, value, old);
    }

    int connect(boolean ticket) {
        return counted().connect(ticket);
    }

    boolean close(int side) {
        return counted().close(side);
    }

    boolean update(int side) {
        return counted().update(side);
    }

    int tick(int n) {
        return counted().tick(n);
    }

    int deliver(int direction) {
        return counted().deliver(direction);
    }

    boolean disturb(int direction, int how) {
        return counted().disturb(direction, how);
    }

    boolean alter(int direction, int k, int mask) {
        return counted().alter(direction, k, mask);
    }

    int flying(int direction) {
        return counted().flying(direction);
    }

    int datagram(int direction, int k, int what) {
        return counted().datagram(direction, k, what);
    }

    int side(int side, int what) {
        return counted().side(side, what);
    }

    int answer(int n, int what) {
        return counted().answer(n, what);
    }

    int stored(int key) {
        return counted().stored(key);
    }

    int about(int what) {
        return counted().about(what);
    }

    long fold(long a, long b, long c) {
        return counted().fold(a, b, c);
    }

    int share(int x) {
        return counted().share(x);
    }
}

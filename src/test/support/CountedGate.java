/** A TrapGate that is used for no more calls than the document speaks of. */
final class CountedGate {
    private static final int MOST_CALLS = 512;

    private final TrapGate gate = new TrapGate();
    private int calls = 0;

    private TrapGate next() {
        calls++;
        if (calls > MOST_CALLS) {
            throw new IllegalStateException("a test makes more than " + MOST_CALLS + " calls on one object");
        }
        return gate;
    }

    boolean map(int p, int page, int frame, int flags) {
        return next().map(p, page, frame, flags);
    }

    boolean unmap(int p, int page) {
        return next().unmap(p, page);
    }

    int page(int p, int page) {
        return next().page(p, page);
    }

    boolean poke(int frame, int i, int b) {
        return next().poke(frame, i, b);
    }

    int peek(int frame, int i) {
        return next().peek(frame, i);
    }

    boolean set(int p, int k, int v) {
        return next().set(p, k, v);
    }

    int register(int p, int k) {
        return next().register(p, k);
    }

    int trap(int p, int number) {
        return next().trap(p, number);
    }

    int call(int p, int number, int a, int b, int c) {
        return next().call(p, number, a, b, c);
    }

    int traps() {
        return next().traps();
    }

    int count(int what) {
        return next().count(what);
    }

    int descriptors(int p) {
        return next().descriptors(p);
    }
}

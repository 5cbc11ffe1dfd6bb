import java.util.ArrayList;
import java.util.List;

/**
 * A machine whose calls are counted, since nothing is promised behind the 512th, and whose terms'
 * nodes are counted by the document's words, so that a test knows how much room is left.
 */
final class Probe {
    static final int NONE = -1;
    static final int OUT = -2;
    static final int MIN = Integer.MIN_VALUE;
    static final int MAX = Integer.MAX_VALUE;
    static final int MOST_CALLS = 512;
    static final int MOST_NODES = 2000;
    static final int MOST_NODES_IN_ALL = 40000;

    private final ClosureMachine machine = new ClosureMachine();
    private final List<Integer> sizes = new ArrayList<>();
    private int calls = 0;
    private int nodes = 0;

    private ClosureMachine next() {
        calls++;
        if (calls > MOST_CALLS) {
            throw new IllegalStateException("a test makes more than 512 calls of one object");
        }
        return machine;
    }

    private int told(int t, int size) {
        if (t >= 0) {
            sizes.add(size);
            nodes += size;
        }
        return t;
    }

    private int size(int t) {
        return t >= 0 && t < sizes.size() ? sizes.get(t) : 0;
    }

    int calls() {
        return calls;
    }

    int leaf(int kind, int a, int b) {
        return told(next().leaf(kind, a, b), 1);
    }

    int join(int kind, int a, int b) {
        return told(next().join(kind, a, b), size(a) + size(b) + (kind == 4 ? 1 : 0));
    }

    int binder(int kind, int name, int a, int b) {
        return told(next().binder(kind, name, a, b), 1 + size(a) + size(b));
    }

    int lift(int t, int k) {
        return told(next().lift(t, k), size(t));
    }

    int axiom() {
        return next().axiom();
    }

    int def(int t) {
        return next().def(t);
    }

    int family(int parameters, int indices, int constructors) {
        return next().family(parameters, indices, constructors);
    }

    int constructor(int g, int t) {
        return next().constructor(g, t);
    }

    int head(int t, int fuel) {
        return next().head(t, fuel);
    }

    int found(int what) {
        return next().found(what);
    }

    /** A normal form that has so many nodes, if it comes out: its parts are its nodes. */
    int normal(int t, int fuel, int size) {
        int made = next().normal(t, fuel);
        if (made >= 0) {
            Due.is("the normal form has " + size + " nodes", part(made, size - 1, 0) >= 0 ? 1 : 0, 1);
            Due.is("the normal form has no more nodes", part(made, size, 0), NONE);
        }
        return told(made, size);
    }

    int cost() {
        return next().cost();
    }

    int terms() {
        return next().terms();
    }

    int part(int t, int i, int what) {
        return next().part(t, i, what);
    }

    int variable(int i) {
        return leaf(0, i, 0);
    }

    int global(int g) {
        return leaf(1, g, 0);
    }

    int sort(int s) {
        return leaf(2, s, 0);
    }

    int rec(int g, int s) {
        return leaf(3, g, s);
    }

    int fun(int name, int a, int b) {
        return binder(5, name, a, b);
    }

    int all(int name, int a, int b) {
        return binder(6, name, a, b);
    }

    int let(int name, int a, int b) {
        return binder(7, name, a, b);
    }

    int put(int f, int... terms) {
        int t = f;
        for (int a : terms) {
            t = join(4, t, a);
        }
        return t;
    }

    /** A term of so many nodes: told terms, which have none of their own, of one leaf. */
    int sized(int leaf, int wanted) {
        if (wanted == 1) {
            return leaf;
        }
        int half = sized(leaf, wanted / 2);
        int both = join(9, half, half);
        return wanted % 2 == 0 ? both : join(9, both, leaf);
    }

    int room() {
        return MOST_NODES_IN_ALL - nodes;
    }

    /** Tells terms until there is room for just so many nodes more. */
    void leaveRoom(int left) {
        int[] steps = new int[11];
        steps[0] = sort(0);
        for (int i = 1; i < steps.length; i++) {
            steps[i] = join(9, steps[i - 1], steps[i - 1]);
        }
        for (int i = steps.length - 1; i >= 0; i--) {
            while (room() - left >= 1 << i) {
                if (lift(steps[i], 0) < 0) {
                    throw new IllegalStateException("there is no room for " + (1 << i) + " of " + room() + " nodes");
                }
            }
        }
    }
}

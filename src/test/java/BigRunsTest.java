/** Runs that go deep or wide: the machine must agree with the model, and not need Java's own stack. */
public final class BigRunsTest {
    private static final long STACK = 1L << 28;
    private static int finished = 0;

    private BigRunsTest() {
    }

    private static int put(Pair x, int f, int... terms) {
        int t = f;
        for (int a : terms) {
            t = x.join(4, t, a);
        }
        return t;
    }

    private static void ask(Pair x, int t) {
        for (int fuel : new int[] {100, 1000, 2000, 3000}) {
            x.head(t, fuel);
            for (int what = 0; what <= 2; what++) {
                x.found(what);
            }
            int made = x.normal(t, fuel);
            x.cost();
            if (made >= 0) {
                x.sameTerm(made);
            }
        }
    }

    private static void run(String name, Big big) {
        Pair x = new Pair(name, 512);
        try {
            big.play(x);
        } catch (Model.GaveUp gone) {
            Due.is(name + " was too much for the model", 1, 0);
        } catch (Pair.Ended ended) {
            Due.is(name + " ended early", 1, 0);
        }
        System.out.println(name + ": " + x.calls + " calls, " + x.machine.terms() + " terms, cost " + x.machine.cost());
    }

    private interface Big {
        void play(Pair x);
    }

    private static int numbers(Pair x) {
        x.family(0, 0, 2);
        int n = x.leaf(1, 0, 0);
        x.constructor(1, n);
        x.constructor(2, x.binder(6, 7, n, n));
        return n;
    }

    /** The rec of next waits for its own hypothesis, so that all of them wait at once. */
    private static void deepRecs(Pair x, int end, int depth) {
        int n = numbers(x);
        int zero = x.leaf(1, 1, 0);
        int next = x.leaf(1, 2, 0);
        int keep = x.binder(5, 1, n, x.binder(5, 2, n, put(x, next, x.leaf(0, 1, 0))));
        int inner = put(x, x.leaf(3, 0, 1), n, zero, keep, x.leaf(0, 0, 0));
        int f = put(x, x.leaf(3, 0, 2), n, zero, x.binder(5, 3, n, x.binder(5, 4, n, inner)));
        int number = end < 0 ? zero : x.leaf(0, end, 0);
        for (int i = 0; i < depth; i++) {
            number = put(x, next, number);
        }
        ask(x, put(x, f, number));
    }

    private static void nestedRecs(Pair x) {
        int n = numbers(x);
        int zero = x.leaf(1, 1, 0);
        int f = put(x, x.leaf(3, 0, 2), n, zero, x.leaf(1, 2, 0));
        int t = x.leaf(0, 3, 0);
        for (int i = 0; i < 90; i++) {
            t = put(x, f, t);
        }
        ask(x, t);
    }

    /** Many arguments, all of them recursive, in one constructor. */
    private static void wideConstructor(Pair x, int arguments) {
        int d = x.leaf(1, x.family(0, 0, 1), 0);
        int type = d;
        for (int i = 0; i < arguments; i++) {
            type = x.binder(6, i % 100, d, type);
        }
        x.constructor(1, type);
        int made = x.leaf(1, 1, 0);
        for (int i = 0; i < arguments; i++) {
            made = put(x, made, x.leaf(0, i, 0));
        }
        ask(x, put(x, x.leaf(3, 0, 9), x.leaf(2, 0, 0), x.leaf(0, 199, 0), made));
    }

    /** One argument from many alls, each type being the variable before. */
    private static void manyYs(Pair x, int ys) {
        int d = x.leaf(1, x.family(1, 1, 1), 0);
        int argument = put(x, d, x.leaf(0, ys, 0), x.leaf(0, 0, 0));
        for (int i = 0; i < ys; i++) {
            argument = x.binder(6, i % 100, x.leaf(0, 0, 0), argument);
        }
        int end = put(x, d, x.leaf(0, 1, 0), x.leaf(0, 0, 0));
        int type = x.binder(6, 1, x.leaf(2, 0, 0), x.binder(6, 2, argument, end));
        x.constructor(1, type);
        int s = x.leaf(2, 5, 0);
        int made = put(x, x.leaf(1, 1, 0), s, x.leaf(0, 2, 0));
        int t = put(x, x.leaf(3, 0, 9), x.leaf(2, 6, 0), s, x.leaf(0, 3, 0), s, made);
        ask(x, t);
        int second = x.binder(5, 0, s, x.binder(5, 0, s, x.leaf(0, 0, 0)));
        int h = put(x, x.leaf(3, 0, 9), x.leaf(2, 6, 0), s, second, s, made);
        for (int i = 0; i < ys; i++) {
            h = put(x, h, x.leaf(2, i % 100, 0));
        }
        ask(x, h);
    }

    private static void deepBinders(Pair x) {
        int t = x.leaf(0, 100, 0);
        for (int i = 0; i < 100; i++) {
            t = i % 3 == 2 ? x.binder(5, i % 100, x.leaf(0, i % 7, 0), t) : x.lift(x.join(9, t, x.binder(6, 1, t, t)), 1);
            if (t < 0) {
                return;
            }
            if (i % 20 == 0) {
                ask(x, t);
            }
        }
    }

    private static void deepApplications(Pair x) {
        int id = x.binder(5, 0, x.leaf(2, 0, 0), x.leaf(0, 0, 0));
        int t = x.leaf(0, 0, 0);
        for (int i = 0; i < 150; i++) {
            t = i % 2 == 0 ? put(x, id, t) : put(x, t, x.leaf(2, i, 0));
        }
        ask(x, t);
    }

    private static void lets(Pair x) {
        int t = x.leaf(0, 4, 0);
        for (int i = 0; i < 7; i++) {
            t = x.binder(7, i, t, x.binder(6, i, x.leaf(0, 0, 0), x.leaf(0, 1, 0)));
        }
        ask(x, t);
        int u = x.leaf(0, 0, 0);
        for (int i = 0; i < 60; i++) {
            u = x.binder(7, i, x.leaf(0, i % 5, 0), x.join(4, u, x.leaf(0, 0, 0)));
        }
        ask(x, u);
    }

    /** Adding and multiplying numbers by recs, as defs. */
    private static void numbersByDefs(Pair x) {
        int n = numbers(x);
        int zero = x.leaf(1, 1, 0);
        int next = x.leaf(1, 2, 0);
        int v0 = x.leaf(0, 0, 0);
        int v1 = x.leaf(0, 1, 0);
        int more = x.binder(5, 1, n, x.binder(5, 2, n, put(x, next, v0)));
        int sum = x.def(x.binder(5, 3, n, x.binder(5, 4, n, put(x, x.leaf(3, 0, 0), n, v0, more, v1))));
        int again = x.binder(5, 1, n, x.binder(5, 2, n, put(x, x.leaf(1, sum, 0), x.leaf(0, 2, 0), v0)));
        int product = x.def(x.binder(5, 3, n, x.binder(5, 4, n, put(x, x.leaf(3, 0, 0), n, zero, again, v1))));
        int number = zero;
        for (int i = 1; i <= 6; i++) {
            number = put(x, next, number);
            ask(x, put(x, x.leaf(1, product, 0), number, number));
        }
    }

    private static void playAll() {
        run("recs that wait at once", x -> deepRecs(x, -1, 100));
        run("recs that wait at once and stay", x -> deepRecs(x, 2, 20));
        run("recs in one another", BigRunsTest::nestedRecs);
        run("many arguments", x -> wideConstructor(x, 60));
        run("more arguments", x -> wideConstructor(x, 120));
        run("many ys", x -> manyYs(x, 30));
        run("more ys", x -> manyYs(x, 70));
        run("binders in binders", BigRunsTest::deepBinders);
        run("applications of applications", BigRunsTest::deepApplications);
        run("lets in lets", BigRunsTest::lets);
        run("sums and products", BigRunsTest::numbersByDefs);
        finished = 1;
    }

    public static void main(String[] args) throws InterruptedException {
        Thread deep = new Thread(null, BigRunsTest::playAll, "deep", STACK);
        deep.start();
        deep.join();
        Due.is("all runs ended", finished, 1);
        Due.end();
    }
}

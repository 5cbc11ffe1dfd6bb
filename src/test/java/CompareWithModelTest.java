/** Runs that are made up by counting, not by chance, so that each run is the same every time. */
public final class CompareWithModelTest {
    private static final int RUNS = 4000;
    private static final long STACK = 1L << 28;

    private final Pair pair;
    private long seed;
    private int families = 0;
    private final int[] family = new int[60];
    private final int[][] shape = new int[60][];
    private final int[] arguments = new int[60];
    private int globals = 0;

    private static int out = 0;
    private static int heads = 0;
    private static int normals = 0;
    private static int gaveUp = 0;
    private static long dearest = 0;
    private static int finished = 0;

    private CompareWithModelTest(int run) {
        pair = new Pair("run " + run, 512);
        seed = run * 7919L + 17;
    }

    private int below(int bound) {
        seed = seed * 6364136223846793005L + 1442695040888963407L;
        return (int) ((seed >>> 33) % bound);
    }

    private boolean chance(int percent) {
        return below(100) < percent;
    }

    private int name() {
        return below(9) - 1;
    }

    /** A term that is now and then wrapped into what means the same or nearly so. */
    private int wrapped(int t) {
        if (chance(6)) {
            return pair.join(9, below(Math.max(1, pair.machine.terms())), t);
        }
        if (chance(5)) {
            return pair.lift(t, below(3));
        }
        return t;
    }

    private int anyTerm(int depth, int binders) {
        return wrapped(bareTerm(depth, binders));
    }

    private int bareTerm(int depth, int binders) {
        if (depth <= 0 || chance(12)) {
            return leaf(binders);
        }
        int choice = below(100);
        if (choice < 22) {
            return pair.join(4, anyTerm(depth - 1, binders), anyTerm(depth - 1, binders));
        }
        if (choice < 40) {
            return redex(depth, binders);
        }
        if (choice < 55) {
            return pair.binder(5, name(), leaf(binders), anyTerm(depth - 1, binders + 1));
        }
        if (choice < 60) {
            return pair.binder(6, name(), anyTerm(depth - 1, binders), anyTerm(depth - 1, binders + 1));
        }
        if (choice < 68) {
            return pair.binder(7, name(), anyTerm(depth - 1, binders), anyTerm(depth - 1, binders + 1));
        }
        if (families == 0) {
            return leaf(binders);
        }
        int f = below(families);
        return choice < 84 ? recursion(f, depth - 1, binders) : made(f, depth - 1, binders);
    }

    private int redex(int depth, int binders) {
        int f = pair.binder(5, name(), leaf(binders), anyTerm(depth - 1, binders + 1));
        return pair.join(4, f, anyTerm(depth - 1, binders));
    }

    private int leaf(int binders) {
        int choice = below(10);
        if (choice < 6) {
            return pair.leaf(0, below(binders + (chance(15) ? 3 : 1)), 0);
        }
        if (choice < 8 && globals > 0) {
            return pair.leaf(1, below(globals), 0);
        }
        return pair.leaf(2, below(4), 0);
    }

    private int apply(int f, int a) {
        return pair.join(4, f, a);
    }

    private int recursion(int f, int depth, int binders) {
        int[] s = shape[f];
        int t = pair.leaf(3, family[f], below(5));
        for (int p = 0; p < s[0]; p++) {
            t = apply(t, leaf(binders));
        }
        t = apply(t, leaf(binders));
        for (int c = 0; c < s[2]; c++) {
            t = apply(t, minor(arguments[family[f] + 1 + c] + below(3), depth - 1, binders));
        }
        for (int i = 0; i < s[1]; i++) {
            t = apply(t, leaf(binders));
        }
        if (chance(95)) {
            t = apply(t, chance(85) ? made(f, depth, binders) : anyTerm(depth - 1, binders));
        }
        return chance(10) ? apply(t, leaf(binders)) : t;
    }

    private int minor(int funs, int depth, int binders) {
        if (funs <= 0) {
            return anyTerm(depth, binders);
        }
        int type = leaf(binders);
        return pair.binder(5, name(), type, minor(funs - 1, depth, binders + 1));
    }

    private int made(int f, int depth, int binders) {
        int[] s = shape[f];
        if (s[2] == 0) {
            return leaf(binders);
        }
        int c = depth <= 0 ? 0 : below(s[2]);
        int g = family[f] + 1 + c;
        int t = pair.leaf(1, g, 0);
        int count = s[0] + arguments[g] + (chance(4) ? 1 : 0) - (chance(4) ? 1 : 0);
        for (int n = 0; n < count; n++) {
            boolean deeper = n >= s[0] && chance(70);
            t = apply(t, deeper ? argument(f, depth - 1, binders) : leaf(binders));
        }
        return wrapped(t);
    }

    private int argument(int f, int depth, int binders) {
        if (chance(35)) {
            return pair.binder(5, name(), leaf(binders), made(f, depth, binders + 1));
        }
        return made(f, depth, binders);
    }

    private void newFamily() {
        int parameters = below(3);
        int indices = below(3);
        int constructors = below(4);
        int g = pair.family(parameters, indices, constructors);
        if (g < 0) {
            return;
        }
        globals = g + 1 + constructors;
        family[families] = g;
        shape[families] = new int[] {parameters, indices, constructors};
        families++;
        for (int c = 0; c < constructors; c++) {
            int n = c == 0 && chance(60) ? below(2) : below(4);
            arguments[g + 1 + c] = n;
            if (chance(93)) {
                pair.constructor(g + 1 + c, type(g, shape[families - 1], n, 0));
            }
        }
    }

    private int type(int g, int[] s, int n, int binders) {
        if (binders == s[0] + n) {
            return instance(g, s, binders);
        }
        boolean argument = binders >= s[0];
        int first = argument && chance(65) ? recursiveType(g, s, binders, chance(40) ? 1 + below(2) : 0)
                : argument ? anyTerm(1, Math.max(0, binders - 1)) : pair.leaf(2, below(3), 0);
        return pair.binder(6, name(), first, type(g, s, n, binders + 1));
    }

    private int recursiveType(int g, int[] s, int binders, int ys) {
        if (ys == 0) {
            return chance(95) ? instance(g, s, binders) : wrapped(instance(g, s, binders));
        }
        int first = binders > 0 ? pair.leaf(0, below(binders), 0) : pair.leaf(2, 1, 0);
        return pair.binder(6, name(), first, recursiveType(g, s, binders + 1, ys - 1));
    }

    private int instance(int g, int[] s, int binders) {
        int t = pair.leaf(1, g, 0);
        for (int p = 0; p < s[0]; p++) {
            t = apply(t, pair.leaf(0, binders - 1 - p + (chance(2) ? 1 : 0), 0));
        }
        for (int i = 0; i < s[1]; i++) {
            int index = binders > 0 && chance(70) ? pair.leaf(0, below(binders), 0) : pair.leaf(2, below(3), 0);
            t = apply(t, chance(20) ? pair.join(9, index, index) : index);
        }
        return t;
    }

    private void ask(int t) {
        int fuel = chance(70) ? 3000 : 1 + below(60);
        if (chance(50)) {
            heads++;
            int answer = pair.head(t, fuel);
            out += answer == Model.OUT ? 1 : 0;
            dearest = Math.max(dearest, answer);
            for (int what = 0; what <= 2; what++) {
                pair.found(what);
            }
            exactFuel(t, answer);
        }
        int made = pair.normal(t, fuel);
        normals++;
        out += made == Model.OUT ? 1 : 0;
        dearest = Math.max(dearest, pair.cost());
        pair.terms();
        if (made >= 0) {
            pair.sameTerm(made);
        }
    }

    /** The fuel that just does, and one less. */
    private void exactFuel(int t, int cost) {
        if (cost > 1) {
            pair.head(t, cost - 1);
            pair.head(t, cost);
        }
    }

    private void play() {
        try {
            for (int n = 0; n < 30; n++) {
                int choice = below(10);
                if (choice < 2 && families < 4) {
                    newFamily();
                } else if (choice == 2) {
                    int g = pair.def(anyTerm(3, 0));
                    globals = g >= 0 ? g + 1 : globals;
                } else if (choice == 3) {
                    int g = pair.axiom();
                    globals = g >= 0 ? g + 1 : globals;
                } else {
                    int t = anyTerm(2 + below(4), below(3));
                    pair.sameTerm(Math.max(0, t));
                    ask(t);
                }
            }
        } catch (Pair.Ended ended) {
            // the run has had its calls, or an answer was wrong and has been told
        } catch (Model.GaveUp gone) {
            gaveUp++;
        }
    }

    private static void playAll() {
        for (int run = 1; run <= RUNS && Due.wrong() < 20; run++) {
            new CompareWithModelTest(run).play();
        }
        System.out.println(heads + " heads, " + normals + " normal forms, " + out + " of both out, " + gaveUp
                + " runs given up, dearest " + dearest);
        finished = 1;
    }

    public static void main(String[] args) throws InterruptedException {
        Thread deep = new Thread(null, CompareWithModelTest::playAll, "deep", STACK);
        deep.start();
        deep.join();
        Due.is("all runs ended", finished, 1);
        Due.is("normal forms compared, more than 10000", normals > 10000 ? 1 : 0, 1);
        Due.end();
    }
}

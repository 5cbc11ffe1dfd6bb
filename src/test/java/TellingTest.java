/** Promises 1 to 9, 14 and 15: what is told, what is refused, and how it is seen again. */
public final class TellingTest {
    private static final int NONE = ClosureMachine.NONE;
    private static final int MIN = Integer.MIN_VALUE;
    private static final int MAX = Integer.MAX_VALUE;
    private static final int[] NO_TERMS = {MIN, -2, -1, 1000, MAX};

    private TellingTest() {
    }

    private static void part(ClosureMachine x, int t, int i, int kind, int number, int sort) {
        String where = "part(" + t + ", " + i + ", ";
        Due.is(where + "0)", x.part(t, i, 0), kind);
        Due.is(where + "1)", x.part(t, i, 1), number);
        Due.is(where + "2)", x.part(t, i, 2), sort);
    }

    private static void newObject() {
        ClosureMachine x = new ClosureMachine();
        Due.is("terms of a new one", x.terms(), 0);
        Due.is("cost of a new one", x.cost(), NONE);
        for (int what = -1; what <= 3; what++) {
            Due.is("found of a new one", x.found(what), NONE);
        }
        Due.is("part of a new one", x.part(0, 0, 0), NONE);
        Due.is("global of a new one", x.leaf(1, 0, 0), NONE);
        Due.is("rec of a new one", x.leaf(3, 0, 0), NONE);
        Due.is("head of a new one", x.head(0, 5), NONE);
        Due.is("normal of a new one", x.normal(0, 5), NONE);
        Due.is("its first axiom", x.axiom(), 0);
        ClosureMachine y = new ClosureMachine();
        Due.is("objects share nothing", y.leaf(1, 0, 0), NONE);
    }

    private static void leaf() {
        ClosureMachine x = new ClosureMachine();
        x.axiom();
        x.family(0, 0, 1);
        Due.is("variable 0", x.leaf(0, 0, 0), 0);
        Due.is("variable 199", x.leaf(0, 199, 0), 1);
        Due.is("sort 0", x.leaf(2, 0, 0), 2);
        Due.is("sort 199", x.leaf(2, 199, 0), 3);
        Due.is("an axiom", x.leaf(1, 0, 0), 4);
        Due.is("a family", x.leaf(1, 1, 0), 5);
        Due.is("a constructor without type", x.leaf(1, 2, 0), 6);
        Due.is("a rec", x.leaf(3, 1, 0), 7);
        Due.is("a rec of sort 199", x.leaf(3, 1, 199), 8);
        Due.is("an equal one", x.leaf(0, 0, 0), 9);
        int[][] wrong = {{0, -1, 0}, {0, 200, 0}, {0, MAX, 0}, {0, MIN, 0}, {2, -1, 0}, {2, 200, 0}, {0, 0, 1},
            {0, 0, -1}, {1, 0, 1}, {2, 0, 1}, {2, 0, -1}, {1, -1, 0}, {1, 3, 0}, {1, MAX, 0}, {1, MIN, 0}, {3, 0, 0},
            {3, 2, 0}, {3, 3, 0}, {3, -1, 0}, {3, 1, -1}, {3, 1, 200}, {3, 1, MIN}, {4, 0, 0}, {-1, 0, 0}, {5, 0, 0},
            {8, 0, 0}, {9, 0, 0}, {MIN, 0, 0}, {MAX, 0, 0}};
        for (int[] w : wrong) {
            Due.is("leaf(" + w[0] + ", " + w[1] + ", " + w[2] + ")", x.leaf(w[0], w[1], w[2]), NONE);
        }
        Due.is("refused ones are no terms", x.terms(), 10);
        part(x, 1, 0, 0, 199, 0);
        part(x, 3, 0, 2, 199, 0);
        part(x, 4, 0, 1, 0, 0);
        part(x, 8, 0, 3, 1, 199);
    }

    private static void join() {
        ClosureMachine x = new ClosureMachine();
        x.leaf(0, 7, 0);
        x.leaf(2, 5, 0);
        Due.is("application", x.join(4, 0, 1), 2);
        Due.is("told", x.join(9, 2, 1), 3);
        Due.is("of one twice", x.join(4, 3, 3), 4);
        for (int t : NO_TERMS) {
            Due.is("join without a first part", x.join(4, t, 0), NONE);
            Due.is("join without a second part", x.join(9, 0, t), NONE);
        }
        for (int kind : new int[] {MIN, -1, 0, 1, 2, 3, 5, 6, 7, 8, 10, MAX}) {
            Due.is("join of another kind", x.join(kind, 0, 1), NONE);
        }
        Due.is("the next one does not exist yet", x.join(4, 5, 0), NONE);
        Due.is("terms", x.terms(), 5);
        part(x, 2, 0, 4, 0, 0);
        part(x, 2, 1, 0, 7, 0);
        part(x, 2, 2, 2, 5, 0);
        part(x, 3, 0, 9, 0, 0);
        part(x, 3, 1, 4, 0, 0);
        part(x, 3, 2, 0, 7, 0);
        part(x, 3, 3, 2, 5, 0);
        part(x, 3, 4, 2, 5, 0);
        part(x, 3, 5, NONE, NONE, NONE);
        part(x, 4, 6, 9, 0, 0);
    }

    private static void binder() {
        ClosureMachine x = new ClosureMachine();
        x.leaf(0, 0, 0);
        x.leaf(2, 3, 0);
        Due.is("fun", x.binder(5, 0, 1, 0), 2);
        Due.is("all", x.binder(6, 99, 1, 0), 3);
        Due.is("let", x.binder(7, NONE, 1, 0), 4);
        for (int name : new int[] {MIN, -3, -2, 100, 101, MAX}) {
            Due.is("a name that is none", x.binder(5, name, 1, 0), NONE);
        }
        for (int kind : new int[] {MIN, -1, 0, 4, 8, 9, 10, MAX}) {
            Due.is("binder of another kind", x.binder(kind, 0, 1, 0), NONE);
        }
        for (int t : NO_TERMS) {
            Due.is("binder without a first part", x.binder(6, 1, t, 0), NONE);
            Due.is("binder without a second part", x.binder(7, 1, 0, t), NONE);
        }
        Due.is("terms", x.terms(), 5);
        part(x, 2, 0, 5, 0, 0);
        part(x, 3, 0, 6, 99, 0);
        part(x, 4, 0, 7, NONE, 0);
        part(x, 4, 1, 2, 3, 0);
        part(x, 4, 2, 0, 0, 0);
    }

    private static void lift() {
        ClosureMachine x = new ClosureMachine();
        x.leaf(0, 0, 0);
        x.leaf(2, 1, 0);
        int closed = x.binder(5, 4, 1, 0);
        Due.is("closed ones stay, as another number", x.lift(closed, 199), 3);
        part(x, 3, 0, 5, 4, 0);
        part(x, 3, 3, NONE, NONE, NONE);
        Due.is("by 0", x.lift(0, 0), 4);
        part(x, 4, 0, 0, 0, 0);
        part(x, 4, 1, NONE, NONE, NONE);
        Due.is("lifted", x.lift(0, 199), 5);
        part(x, 5, 0, 8, 199, 0);
        part(x, 5, 1, 0, 0, 0);
        part(x, 5, 2, NONE, NONE, NONE);
        Due.is("lifted by both", x.lift(5, 199), 6);
        part(x, 6, 0, 8, 398, 0);
        part(x, 6, 1, 0, 0, 0);
        part(x, 6, 2, NONE, NONE, NONE);
        Due.is("a lifted one by 0", x.lift(6, 0), 7);
        part(x, 7, 0, 8, 398, 0);
        int told = x.join(9, 0, 1);
        Due.is("told with a loose type", x.lift(told, 2), 9);
        part(x, 9, 0, 8, 2, 0);
        part(x, 9, 1, 9, 0, 0);
        int half = x.binder(5, 0, 0, 0);
        Due.is("loose in its first part alone", x.lift(half, 1), 11);
        part(x, 11, 0, 8, 1, 0);
        for (int t : NO_TERMS) {
            Due.is("no term", x.lift(t, 1), NONE);
        }
        for (int k : new int[] {MIN, -1, 200, MAX}) {
            Due.is("lifted by " + k, x.lift(0, k), NONE);
            Due.is("closed, lifted by " + k, x.lift(1, k), NONE);
        }
        Due.is("terms", x.terms(), 12);
    }

    private static void axiomAndDef() {
        ClosureMachine x = new ClosureMachine();
        x.leaf(0, 0, 0);
        x.leaf(2, 1, 0);
        int closed = x.binder(7, 4, 1, 0);
        int loose = x.binder(5, 4, 0, 1);
        int toldLoose = x.join(9, 0, 1);
        int deep = x.binder(6, 1, 1, x.lift(0, 1));
        Due.is("axiom", x.axiom(), 0);
        Due.is("def", x.def(closed), 1);
        Due.is("def of a sort", x.def(1), 2);
        Due.is("loose", x.def(0), NONE);
        Due.is("loose in a first part", x.def(loose), NONE);
        Due.is("loose in a told type", x.def(toldLoose), NONE);
        Due.is("lifted out of its binder", x.def(deep), NONE);
        for (int t : NO_TERMS) {
            Due.is("no term", x.def(t), NONE);
        }
        Due.is("refused ones are no globals", x.axiom(), 3);
        for (int g = 4; g < 60; g++) {
            Due.is("axiom " + g, x.axiom(), g);
        }
        Due.is("axiom 60", x.axiom(), NONE);
        Due.is("def 60", x.def(1), NONE);
        Due.is("family 60", x.family(0, 0, 0), NONE);
        Due.is("global 59", x.leaf(1, 59, 0), 7);
        Due.is("global 60", x.leaf(1, 60, 0), NONE);
    }

    private static void family() {
        ClosureMachine x = new ClosureMachine();
        Due.is("greatest", x.family(4, 4, 5), 0);
        Due.is("behind its constructors", x.family(0, 0, 0), 6);
        int[][] wrong = {{-1, 0, 0}, {5, 0, 0}, {0, -1, 0}, {0, 5, 0}, {0, 0, -1}, {0, 0, 6}, {MIN, 0, 0}, {0, MAX, 0},
            {0, 0, MAX}, {0, 0, MIN}};
        for (int[] w : wrong) {
            Due.is("family(" + w[0] + ", " + w[1] + ", " + w[2] + ")", x.family(w[0], w[1], w[2]), NONE);
        }
        for (int g = 7; g < 55; g++) {
            Due.is("axiom " + g, x.axiom(), g);
        }
        Due.is("one too many", x.family(0, 0, 5), NONE);
        Due.is("just full", x.family(0, 0, 4), 55);
        Due.is("its last constructor", x.leaf(1, 59, 0), 0);
        Due.is("a constructor is no family", x.leaf(3, 59, 0), NONE);
        Due.is("full", x.axiom(), NONE);
    }

    private static void constructor() {
        ClosureMachine x = new ClosureMachine();
        x.family(1, 1, 5);
        int axiom = x.axiom();
        int sort = x.leaf(2, 0, 0);
        int[] v = new int[4];
        for (int i = 0; i < v.length; i++) {
            v[i] = x.leaf(0, i, 0);
        }
        int d = x.leaf(1, 0, 0);
        int plain = x.binder(6, 0, sort, put(x, d, v[0], sort));
        Due.is("no argument", x.constructor(1, plain), 0);
        Due.is("told twice", x.constructor(1, plain), NONE);
        Due.is("a family is none", x.constructor(0, plain), NONE);
        Due.is("an axiom is none", x.constructor(axiom, plain), NONE);
        for (int g : NO_TERMS) {
            Due.is("no global", x.constructor(g, plain), NONE);
            Due.is("no term", x.constructor(2, g), NONE);
        }
        refusedTypes(x, sort, d, v);
        int ys = x.binder(6, 5, v[0], x.binder(6, 6, v[1], put(x, d, v[3], v[0])));
        int other = put(x, d, sort, sort);
        int toldOne = x.join(9, sort, put(x, d, v[3], sort));
        int lifted = x.lift(put(x, d, v[0], sort), 1);
        int good = arguments(x, sort, other, ys, put(x, d, v[3], v[0]));
        int bad = arguments(x, sort, other, ys, put(x, d, v[2], v[0]));
        Due.is("it ends in an argument, not in the parameter", x.constructor(2, bad), NONE);
        Due.is("three arguments, two of them recursive", x.constructor(2, good), 2);
        int u = x.binder(6, NONE, sort, x.binder(6, 0, put(x, d, v[1], sort), put(x, d, v[2], sort)));
        Due.is("two arguments, the second one recursive", x.constructor(3, x.binder(6, 1, d, u)), 1);
        int w = x.binder(6, 4, toldOne, put(x, d, x.leaf(0, 4, 0), v[0]));
        w = x.binder(6, 3, ys, w);
        w = x.binder(6, 2, lifted, w);
        w = x.binder(6, 1, put(x, d, v[0], v[0]), w);
        Due.is("told, lifted and displaced types are not recursive", x.constructor(4, x.binder(6, 0, sort, w)), 1);
        noParameters();
    }

    /** all A, all of the family put to A and A, all of ys, all of other, and under these the end. */
    private static int arguments(ClosureMachine x, int sort, int other, int ys, int end) {
        int first = put(x, x.leaf(1, 0, 0), x.leaf(0, 0, 0), x.leaf(0, 0, 0));
        return x.binder(6, 1, sort, x.binder(6, 2, first, x.binder(6, 3, ys, x.binder(6, 4, other, end))));
    }

    private static void refusedTypes(ClosureMachine x, int sort, int d, int[] v) {
        int good = put(x, d, v[0], sort);
        int[] wrong = {
            good,
            sort,
            d,
            x.binder(6, 0, sort, v[0]),
            x.binder(6, 0, v[0], good),
            x.binder(5, 0, sort, good),
            x.binder(7, 0, sort, good),
            x.binder(6, 0, sort, x.join(4, d, v[0])),
            x.binder(6, 0, sort, x.join(4, good, sort)),
            x.binder(6, 0, sort, put(x, d, sort, v[0])),
            x.binder(6, 0, sort, put(x, x.leaf(1, 1, 0), v[0], sort)),
            x.binder(6, 0, sort, put(x, d, x.join(9, sort, v[0]), sort)),
            x.binder(6, 0, sort, put(x, x.join(9, sort, d), v[0], sort)),
            x.binder(6, 0, sort, x.join(9, sort, good)),
            x.join(9, sort, x.binder(6, 0, sort, good)),
            x.binder(6, 0, sort, x.binder(6, 0, sort, good)),
            x.binder(6, 0, sort, x.binder(6, 0, sort, x.lift(good, 1))),
            x.binder(6, 0, sort, x.binder(6, 0, sort, put(x, d, x.lift(v[0], 1), sort))),
        };
        for (int i = 0; i < wrong.length; i++) {
            Due.is("type " + i + " that is none", x.constructor(2, wrong[i]), NONE);
        }
    }

    private static void noParameters() {
        ClosureMachine x = new ClosureMachine();
        x.family(0, 0, 3);
        int n = x.leaf(1, 0, 0);
        Due.is("the family itself", x.constructor(1, n), 0);
        int t = n;
        for (int i = 0; i < 3; i++) {
            t = x.binder(6, NONE, x.binder(6, 3, n, n), t);
        }
        Due.is("three of one Y", x.constructor(2, t), 3);
        Due.is("the same term for another one", x.constructor(3, t), 3);
    }

    private static int put(ClosureMachine x, int d, int a, int b) {
        return x.join(4, x.join(4, d, a), b);
    }

    private static void nodesOfOneTerm() {
        ClosureMachine x = new ClosureMachine();
        int t = x.leaf(2, 0, 0);
        int one = t;
        int n999 = NONE;
        for (int nodes = 3; nodes <= 1023; nodes = 2 * nodes + 1) {
            t = x.join(4, t, t);
            n999 = nodes == 511 ? t : n999;
        }
        Due.is("1023 nodes twice are too many", x.join(4, t, t), NONE);
        Due.is("1023 nodes twice are too many, told", x.join(9, t, t), NONE);
        Due.is("1023 nodes twice are too many, bound", x.binder(7, 1, t, t), NONE);
        // 1023 + 511 = 1534 with a told one, which has no node of its own; 466 more make 2000.
        int told = x.join(9, t, n999);
        Due.is("told", told, t + 1);
        int to2000 = sized(x, one, 466);
        int full = x.join(9, told, to2000);
        Due.is("2000 nodes", full, x.terms() - 1);
        Due.is("2001 nodes", x.join(9, full, one), NONE);
        Due.is("2000 nodes as another number", x.lift(full, 1), full + 1);
        int over = sized(x, one, 465);
        Due.is("2000 nodes with its own", x.join(4, told, over), x.terms() - 1);
        Due.is("2001 nodes with its own", x.join(4, told, to2000), NONE);
        Due.is("2001 nodes with its own", x.binder(6, 1, told, to2000), NONE);
    }

    /** A term of so many nodes, by told terms of sorts. */
    private static int sized(ClosureMachine x, int one, int nodes) {
        if (nodes == 1) {
            return one;
        }
        int half = sized(x, one, nodes / 2);
        int both = x.join(9, half, half);
        return nodes % 2 == 0 ? both : x.join(9, both, one);
    }

    private static void nodesInAll() {
        ClosureMachine x = new ClosureMachine();
        int free = x.leaf(0, 0, 0);
        int all = 1;
        int t = free;
        for (int nodes = 3; nodes <= 511; nodes = 2 * nodes + 1) {
            t = x.join(4, t, t);
            all += nodes;
        }
        for (; all + 511 <= 40000; all += 511) {
            Due.is("a lifted one has the nodes of its part", x.lift(t, 1), x.terms() - 1);
        }
        int terms = x.terms();
        Due.is("no room for it once more", x.lift(t, 1), NONE);
        Due.is("nor as it stands", x.lift(t, 0), NONE);
        Due.is("nor its normal form", x.normal(t, 3000), NONE);
        Due.is("which cost nothing that came out", x.cost(), NONE);
        Due.is("but it may be out first", x.normal(t, 500), ClosureMachine.OUT);
        Due.is("nor is there a term more", x.terms(), terms);
        int small = x.normal(free, 1);
        all += 1;
        Due.is("room for a small one", small, terms);
        for (; all < 40000; all++) {
            Due.is("a leaf", x.leaf(2, 0, 0) >= 0 ? 1 : 0, 1);
        }
        Due.is("full for a leaf", x.leaf(0, 0, 0), NONE);
        Due.is("full for a pair", x.join(4, 0, 0), NONE);
        Due.is("full for a binder", x.binder(5, 0, 0, 0), NONE);
        Due.is("full for a lifted one", x.lift(0, 1), NONE);
        Due.is("full for a normal form", x.normal(0, 1), NONE);
        Due.is("heads need no room", x.head(0, 1), 0);
        Due.is("globals need no room", x.axiom(), 0);
    }

    private static void parts() {
        ClosureMachine x = new ClosureMachine();
        x.family(0, 0, 0);
        int r = x.leaf(3, 0, 9);
        int v = x.leaf(0, 2, 0);
        int lifted = x.lift(v, 5);
        int told = x.join(9, r, lifted);
        int fun = x.binder(5, 12, told, v);
        int[][] due = {{5, 12, 0}, {9, 0, 0}, {3, 0, 9}, {8, 5, 0}, {0, 2, 0}, {0, 2, 0}};
        for (int i = 0; i < due.length; i++) {
            part(x, fun, i, due[i][0], due[i][1], due[i][2]);
        }
        part(x, fun, 6, NONE, NONE, NONE);
        part(x, fun, -1, NONE, NONE, NONE);
        part(x, fun, MAX, NONE, NONE, NONE);
        part(x, fun, MIN, NONE, NONE, NONE);
        for (int t : NO_TERMS) {
            part(x, t, 0, NONE, NONE, NONE);
        }
        for (int what : new int[] {MIN, -1, 3, MAX}) {
            Due.is("part asked for what is none", x.part(fun, 0, what), NONE);
        }
        Due.is("terms", x.terms(), fun + 1);
    }

    public static void main(String[] args) {
        newObject();
        leaf();
        join();
        binder();
        lift();
        axiomAndDef();
        family();
        constructor();
        nodesOfOneTerm();
        nodesInAll();
        parts();
        Due.end();
    }
}

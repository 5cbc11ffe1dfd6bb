/**
 * The limits that stand under 'Terms': 60 globals, 2000 nodes of a term, 40000 nodes in all, and the
 * 512 calls of an object. Each is asked just full and one beyond, by each call that may meet it.
 * (3000 terms are more than 512 calls can tell; FaceTest goes there, though nothing is promised.)
 */
public final class LimitsTest {
    private static final int NONE = Probe.NONE;
    private static final int OUT = Probe.OUT;

    private LimitsTest() {
    }

    private interface Call {
        int on(Probe x, int a, int b);
    }

    private static Probe withGlobals(int count) {
        Probe x = new Probe();
        x.sort(0);
        for (int g = 0; g < count; g++) {
            Due.is("axiom " + g, x.axiom(), g);
        }
        return x;
    }

    private static void sixtyGlobals() {
        Due.is("axiom 59 is the last", withGlobals(59).axiom(), 59);
        Due.is("def 59 is the last", withGlobals(59).def(0), 59);
        Due.is("family 59 is the last", withGlobals(59).family(4, 4, 0), 59);
        Due.is("axiom 60", withGlobals(60).axiom(), NONE);
        Due.is("def 60", withGlobals(60).def(0), NONE);
        Due.is("family 60", withGlobals(60).family(0, 0, 0), NONE);
        for (int constructors = 0; constructors <= 5; constructors++) {
            Probe full = withGlobals(59 - constructors);
            Due.is("a family that just fits", full.family(0, 0, constructors), 59 - constructors);
            Due.is("behind it an axiom", full.axiom(), NONE);
            Due.is("its last global", full.global(59), 1);
            Due.is("behind its last global", full.global(60), NONE);
            Probe over = withGlobals(60 - constructors);
            Due.is("a family that does not fit by one", over.family(0, 0, constructors), NONE);
            Due.is("none of it is there", over.global(60 - constructors), NONE);
            for (int g = 60 - constructors; g < 60; g++) {
                Due.is("and its room is left", over.axiom(), g);
            }
            Due.is("but no more", over.axiom(), NONE);
        }
    }

    private static void fullOfFamilies() {
        Probe x = new Probe();
        for (int g = 0; g < 60; g += 6) {
            Due.is("family " + g, x.family(0, 0, 5), g);
            int d = x.global(g);
            for (int c = g + 1; c < g + 6; c++) {
                Due.is("the type of " + c, x.constructor(c, x.all(0, d, d)), 1);
            }
        }
        Due.is("eleven families of five", x.family(0, 0, 0), NONE);
        int last = x.put(x.global(59), x.variable(3));
        int rec = x.put(x.rec(54, 0), x.sort(0));
        for (int c = 0; c < 5; c++) {
            rec = x.put(rec, x.variable(c));
        }
        Due.is("the last constructor of the last family", x.head(x.put(rec, last), 100), 7 + 1 + 1 + 2);
        Due.is("its part C", x.found(1), 4);
        Due.is("put to an argument and a hypothesis", x.found(2), 2);
    }

    /** Two terms of so many nodes each, loose or closed. */
    private static void nodes(String what, int first, int second, boolean loose, Call call, boolean fits) {
        Probe x = new Probe();
        int leaf = loose ? x.variable(0) : x.sort(0);
        int a = x.sized(leaf, first);
        int b = x.sized(leaf, second);
        int terms = x.terms();
        Due.is(what + " of " + first + " and " + second + " nodes", call.on(x, a, b), fits ? terms : NONE);
        Due.is(what + ": terms", x.terms(), fits ? terms + 1 : terms);
    }

    private static void twoThousandNodes() {
        int[][] pairs = {{1, 1998}, {1998, 1}, {999, 1000}, {1, 1999}, {1999, 1}, {1000, 1000}, {2000, 2000}};
        for (int[] p : pairs) {
            int both = p[0] + p[1];
            nodes("application", p[0], p[1], false, (x, a, b) -> x.join(4, a, b), both + 1 <= 2000);
            nodes("fun", p[0], p[1], true, (x, a, b) -> x.fun(0, a, b), both + 1 <= 2000);
            nodes("all", p[0], p[1], false, (x, a, b) -> x.all(0, a, b), both + 1 <= 2000);
            nodes("let", p[0], p[1], true, (x, a, b) -> x.let(0, a, b), both + 1 <= 2000);
            nodes("told", p[0], p[1], true, (x, a, b) -> x.join(9, a, b), both <= 2000);
            nodes("told", p[0], p[1] + 1, false, (x, a, b) -> x.join(9, a, b), both + 1 <= 2000);
        }
        nodes("lift", 2000, 1, true, (x, a, b) -> x.lift(a, 1), true);
        nodes("lift by 0", 2000, 1, true, (x, a, b) -> x.lift(a, 0), true);
        nodes("lift of a closed one", 2000, 1, false, (x, a, b) -> x.lift(a, 1), true);
    }

    private static void liftedAndToldInOthers() {
        Probe x = new Probe();
        int v = x.variable(0);
        int lifted = x.lift(x.sized(v, 1000), 1);
        int again = x.lift(lifted, 199);
        Due.is("lifted ones have their part's nodes", x.join(9, lifted, again), x.terms() - 1);
        Due.is("and an application one more", x.join(4, lifted, again), NONE);
        int less = x.lift(x.sized(v, 999), 1);
        Due.is("2000", x.join(4, less, again), x.terms() - 1);
        Due.is("2000", x.join(4, again, less), x.terms() - 1);
        int full = x.lift(x.sized(v, 2000), 1);
        Due.is("a lifted one of 2000 nodes lifted again", x.lift(full, 1), x.terms() - 1);
    }

    /** Alls of sorts, of so many nodes (an odd number), whose heads cost nothing. */
    private static int alls(Probe x, int nodes) {
        if (nodes == 1) {
            return x.sort(0);
        }
        int half = (nodes - 1) / 2;
        int first = alls(x, half % 2 == 1 ? half : half - 1);
        return x.all(0, first, half % 2 == 1 ? first : alls(x, half + 1));
    }

    /** A normal form has an odd number of nodes, so that 1999 are its last that fit. */
    private static void nodesOfNormalForms() {
        Probe x = new Probe();
        int s = x.sort(1);
        int twice = x.all(1, x.variable(0), x.variable(1));
        int fits = x.let(0, alls(x, 999), twice);
        int over = x.let(0, alls(x, 999), x.all(2, s, x.all(1, x.variable(1), x.variable(2))));
        int terms = x.terms();
        Due.is("2001 nodes, first of all", x.normal(over, 3000, 2001), NONE);
        Due.is("nothing came out", x.cost(), NONE);
        Due.is("no term more", x.terms(), terms);
        Due.is("1999 nodes", x.normal(fits, 3000, 1999), terms);
        Due.is("cost", x.cost(), 2000);
        Due.is("2001 nodes", x.normal(over, 3000, 2001), NONE);
        Due.is("2001 nodes with just its cost", x.normal(over, 2002, 2001), NONE);
        Due.is("with less than its cost it is OUT", x.normal(over, 2001, 2001), OUT);
        Due.is("cost of what came out", x.cost(), 2000);
        Due.is("one term more", x.terms(), terms + 1);
        Due.is("1999 nodes with just their cost", x.normal(fits, 2000, 1999), terms + 1);
        Due.is("1999 nodes with less", x.normal(fits, 1999, 1999), OUT);
        Due.is("heads have no such limit", x.head(over, 1), 1);
    }

    /** A call whose term has so many nodes, with just the room for it, and with one node less. */
    private static void inAll(String what, int nodes, Workshop.Call make, Call call) {
        for (int short1 = 0; short1 <= 1; short1++) {
            Probe x = new Probe();
            int t = make.on(x);
            x.leaveRoom(nodes - short1);
            int terms = x.terms();
            int due = short1 == 0 ? terms : NONE;
            Due.is(what + ", room for " + (nodes - short1), call.on(x, t, 0), due);
            Due.is(what + ": terms", x.terms(), short1 == 0 ? terms + 1 : terms);
            if (short1 == 0) {
                Due.is(what + ": it is full now", x.sort(0), NONE);
            }
            Due.is(what + ", once more", call.on(x, t, 0), NONE);
        }
    }

    private static void fortyThousandNodes() {
        inAll("variable", 1, x -> x.variable(0), (x, t, z) -> x.variable(0));
        inAll("sort", 1, x -> x.variable(0), (x, t, z) -> x.sort(0));
        inAll("global", 1, x -> x.sort(x.family(0, 0, 0)), (x, t, z) -> x.global(0));
        inAll("rec", 1, x -> x.sort(x.family(0, 0, 0)), (x, t, z) -> x.rec(0, 0));
        inAll("application", 7, LimitsTest::three, (x, t, z) -> x.put(t, t));
        inAll("fun", 7, LimitsTest::three, (x, t, z) -> x.fun(0, t, t));
        inAll("all", 7, LimitsTest::three, (x, t, z) -> x.all(0, t, t));
        inAll("let", 7, LimitsTest::three, (x, t, z) -> x.let(0, t, t));
        inAll("told", 6, LimitsTest::three, (x, t, z) -> x.join(9, t, t));
        inAll("lifted", 3, LimitsTest::three, (x, t, z) -> x.lift(t, 1));
        inAll("lifted by 0", 3, LimitsTest::three, (x, t, z) -> x.lift(t, 0));
        inAll("lifted again", 3, x -> x.lift(three(x), 7), (x, t, z) -> x.lift(t, 1));
        inAll("a closed one lifted", 3, x -> x.put(x.sort(0), x.sort(0)), (x, t, z) -> x.lift(t, 1));
        inAll("a normal form like its term", 3, LimitsTest::three, (x, t, z) -> x.normal(t, 3000, 3));
        inAll("a smaller normal form", 1, LimitsTest::redex, (x, t, z) -> x.normal(t, 3000, 1));
        inAll("a bigger normal form", 11, LimitsTest::copies, (x, t, z) -> x.normal(t, 3000, 11));
    }

    private static int three(Probe x) {
        return x.put(x.variable(0), x.variable(1));
    }

    private static int redex(Probe x) {
        return x.put(x.fun(0, x.sort(0), x.variable(0)), x.sort(0));
    }

    /** let x := s s in x x x, of 9 nodes, becomes one of 11: its head costs 4, its parts 2, its nodes 11. */
    private static int copies(Probe x) {
        int v = x.variable(0);
        return x.let(0, x.put(x.sort(0), x.sort(0)), x.put(v, v, v));
    }

    private static void normalFormsWithoutRoom() {
        Probe x = new Probe();
        int big = copies(x);
        int small = x.sort(9);
        x.leaveRoom(10);
        int terms = x.terms();
        int cost = 4 + 2 + 11;
        Due.is("no room", x.normal(big, 3000, 11), NONE);
        Due.is("no room, with just its cost", x.normal(big, cost, 11), NONE);
        Due.is("OUT goes before", x.normal(big, cost - 1, 11), OUT);
        Due.is("nothing came out", x.cost(), NONE);
        Due.is("no term more", x.terms(), terms);
        for (int n = 0; n < 10; n++) {
            Due.is("the room was not used", x.normal(small, 1, 1), terms + n);
        }
        Due.is("and is now", x.normal(small, 1, 1), NONE);
        Due.is("cost of what came out", x.cost(), 1);
        Due.is("without room it may be OUT", x.normal(big, 1, 11), OUT);
        Due.is("heads need no room", x.head(big, 3000), 4);
        Due.is("axioms need none", x.axiom(), 0);
        Due.is("defs need none", x.def(small), 1);
        Due.is("families need none", x.family(0, 0, 5), 2);
        Due.is("parts need none", x.part(small, 0, 1), 9);
    }

    private static void twentyTermsOfTwoThousand() {
        Probe x = new Probe();
        int t = x.sized(x.variable(0), 2000);
        int before = 40000 - x.room();
        int more = x.room() / 2000;
        Due.is("nodes of the steps to it are counted, too", before > 2000 ? 1 : 0, 1);
        for (int n = 0; n < more; n++) {
            Due.is("2000 nodes once more", x.lift(t, 0), t + 1 + n);
        }
        Due.is("no room for 2000", x.lift(t, 0), NONE);
        Due.is("no room for 2000, lifted", x.lift(t, 1), NONE);
        Due.is("room for a leaf", x.variable(0), t + 1 + more);
    }

    private static void fiveHundredAndTwelveCalls() {
        Probe x = new Probe();
        int s = x.sort(0);
        int redex = x.put(x.fun(0, s, x.variable(0)), s);
        while (x.calls() < Probe.MOST_CALLS - 7) {
            Due.is("a leaf", x.sort(3), x.calls() - 1);
        }
        Due.is("call 506", x.head(redex, 3000), 2);
        Due.is("call 507 to 509", x.normal(redex, 3000, 1), 505);
        Due.is("call 510", x.cost(), 3);
        Due.is("call 511", x.found(0), 2);
        Due.is("call 512", x.terms(), 506);
        Due.is("calls", x.calls(), 512);
    }

    /**
     * let x2 := all s s in let x3 := all x2 x2 in .., so many lets, each x having 2^i - 1 nodes, and
     * under these alls of some x: a small term with a big normal form whose heads cost nothing else.
     */
    private static int doubling(Probe x, int lets, int... some) {
        int s = x.sort(0);
        int last = lets + 1;
        int body = doubled(x, s, last, some[some.length - 1], some.length - 1);
        for (int n = some.length - 2; n >= 0; n--) {
            body = x.all(n, doubled(x, s, last, some[n], n), body);
        }
        for (int i = last; i >= 2; i--) {
            int before = i == 2 ? s : x.variable(0);
            body = x.let(i, x.all(i, before, i == 2 ? s : x.variable(1)), body);
        }
        return body;
    }

    private static int doubled(Probe x, int s, int last, int i, int under) {
        return i == 1 ? s : x.variable(last - i + under);
    }

    private static void normalFormsOfThreeThousand() {
        Probe x = new Probe();
        int nodes = 2989;
        int most = x.let(0, x.sort(0), doubling(x, 10, 11, 9, 8, 7, 5, 3, 2, 1));
        int over = x.let(0, x.sort(0), most);
        int terms = x.terms();
        Due.is("11 and 2989 nodes are just 3000", x.normal(most, 3000, nodes), NONE);
        Due.is("with 2999 they are OUT", x.normal(most, 2999, nodes), OUT);
        Due.is("12 and 2989 nodes are OUT", x.normal(over, 3000, nodes), OUT);
        Due.is("nothing came out", x.cost(), NONE);
        Due.is("no term more", x.terms(), terms);
        int fits = doubling(x, 9, 10, 9, 8, 7, 6, 4);
        Due.is("1999 nodes", x.normal(fits, 3000, 1999), x.terms() - 1);
        Due.is("their cost", x.cost(), 9 + 1999);
    }

    private static void fullOfNormalForms() {
        Probe x = new Probe();
        int t = doubling(x, 9, 10);
        int twice = doubling(x, 10, 11);
        while (x.room() >= 1023) {
            Due.is("1023 nodes", x.normal(t, 3000, 1023), x.terms() - 1);
        }
        int terms = x.terms();
        int sort = x.part(terms - 1, 1022, 1);
        for (int n = 0; n < 30; n++) {
            Due.is("there is no room for 1023 more", x.normal(t, 3000, 1023), NONE);
            Due.is("2047 nodes are too many", x.normal(twice, 3000, 2047), NONE);
            Due.is("with less fuel they are OUT", x.normal(twice, 2056, 2047), OUT);
        }
        Due.is("no term more", x.terms(), terms);
        Due.is("the last one is as it was", x.part(terms - 1, 1022, 1), sort);
        Due.is("and has no more parts", x.part(terms - 1, 1023, 1), NONE);
        int left = x.room();
        Due.is("a leaf", x.variable(77), terms);
        Due.is("the leaf is seen", x.part(terms, 0, 1), 77);
        Due.is("its normal form", x.normal(terms, 1, 1), terms + 1);
        Due.is("the normal form is seen", x.part(terms + 1, 0, 1), 77);
        Due.is("room", x.room(), left - 2);
    }

    /** What did not come out takes no room, however often. */
    private static void whatDidNotComeOut() {
        Probe x = new Probe();
        int big = doubling(x, 10, 11, 9);
        for (int n = 0; n < 150; n++) {
            Due.is("too many nodes", x.normal(big, 3000, 2559), NONE);
            Due.is("OUT", x.normal(big, 2560, 2559), OUT);
        }
        x.leaveRoom(1);
        Due.is("the last leaf", x.variable(5), x.terms() - 1);
        Due.is("it is seen", x.part(x.terms() - 1, 0, 1), 5);
        Due.is("it is full", x.variable(5), NONE);
    }

    public static void main(String[] args) {
        sixtyGlobals();
        fullOfFamilies();
        twoThousandNodes();
        liftedAndToldInOthers();
        nodesOfNormalForms();
        fortyThousandNodes();
        normalFormsWithoutRoom();
        twentyTermsOfTwoThousand();
        fiveHundredAndTwelveCalls();
        normalFormsOfThreeThousand();
        fullOfNormalForms();
        whatDidNotComeOut();
        Due.end();
    }
}

/**
 * Promises 10, 12 and 13, and what 'Terms' says of costs: each head and normal form comes out with
 * its cost as fuel, and is OUT with one less; 3000 is the most that there is.
 */
public final class FuelTest {
    private static final int NONE = Probe.NONE;
    private static final int OUT = Probe.OUT;

    private FuelTest() {
    }

    /** Makes a term whose normal form has as many nodes as are told with it. */
    private interface Make {
        int on(Probe x);
    }

    private static void costs(String what, Make make, int head, int normal, int nodes) {
        Probe x = new Probe();
        int t = make.on(x);
        int terms = x.terms();
        if (head > 1) {
            Due.is(what + ": head with one less", x.head(t, head - 1), OUT);
            Due.is(what + ": nothing was found", x.found(0), NONE);
        }
        Due.is(what + ": head with its cost", x.head(t, Math.max(head, 1)), head);
        Due.is(what + ": head with one more", x.head(t, head + 1), head);
        Due.is(what + ": head with 3000", x.head(t, 3000), head);
        Due.is(what + ": heads are no terms", x.terms(), terms);
        if (normal > 1) {
            Due.is(what + ": normal with one less", x.normal(t, normal - 1, nodes), OUT);
            Due.is(what + ": nothing came out", x.cost(), NONE);
            Due.is(what + ": no term more", x.terms(), terms);
        }
        Due.is(what + ": normal with its cost", x.normal(t, normal, nodes), terms);
        Due.is(what + ": its cost", x.cost(), normal);
        Due.is(what + ": normal with one more", x.normal(t, normal + 1, nodes), terms + 1);
        Due.is(what + ": its cost", x.cost(), normal);
        Due.is(what + ": normal with 3000", x.normal(t, 3000, nodes), terms + 2);
        Due.is(what + ": its cost", x.cost(), normal);
    }

    private static int id(Probe x) {
        return x.fun(1, x.sort(0), x.variable(0));
    }

    private static void whatStays() {
        costs("a variable", x -> x.variable(199), 0, 1, 1);
        costs("a sort", x -> x.sort(3), 0, 1, 1);
        costs("an axiom", x -> x.global(x.axiom()), 0, 1, 1);
        costs("a family", x -> x.global(x.family(0, 0, 0)), 0, 1, 1);
        costs("a constructor", x -> x.global(x.family(0, 0, 1) + 1), 0, 1, 1);
        costs("a rec", x -> x.rec(x.family(0, 0, 0), 0), 0, 1, 1);
        costs("a fun", FuelTest::id, 0, 3, 3);
        costs("an all", x -> x.all(1, x.sort(0), x.variable(0)), 0, 3, 3);
        costs("a lifted variable", x -> x.lift(x.variable(199), 199), 0, 1, 1);
        costs("a told sort", x -> x.join(9, x.variable(0), x.sort(0)), 0, 1, 1);
    }

    private static void whatBecomes() {
        costs("a def", x -> x.global(x.def(x.sort(0))), 1, 2, 1);
        costs("a def of a def", x -> x.global(x.def(x.global(x.def(x.sort(0))))), 2, 3, 1);
        costs("a def of a fun", x -> x.global(x.def(id(x))), 1, 4, 3);
        costs("a let", x -> x.let(1, x.sort(0), x.variable(0)), 1, 2, 1);
        costs("a let of another variable", x -> x.let(1, x.sort(0), x.variable(1)), 1, 2, 1);
        costs("a let in a let", x -> x.let(1, x.sort(0), x.let(2, x.variable(0), x.variable(0))), 2, 3, 1);
        costs("a let whose value is a let", x -> x.let(1, x.let(2, x.sort(0), x.sort(1)), x.variable(0)), 2, 3, 1);
        costs("a told def", x -> x.join(9, x.sort(0), x.global(x.def(x.sort(0)))), 1, 2, 1);
        costs("a lifted let", x -> x.lift(x.let(1, x.variable(0), x.variable(0)), 1), 1, 2, 1);
    }

    private static void applications() {
        costs("of a variable", x -> x.put(x.variable(0), x.sort(0)), 1, 4, 3);
        costs("of an application", x -> x.put(x.variable(0), x.sort(0), x.sort(1)), 2, 7, 5);
        costs("of an all", x -> x.put(x.all(1, x.sort(0), x.sort(0)), x.sort(0)), 1, 6, 5);
        costs("of a fun", x -> x.put(id(x), x.sort(0)), 2, 3, 1);
        costs("of a fun, put to more", x -> x.put(id(x), x.sort(0), x.sort(0)), 3, 6, 3);
        costs("of a told fun", x -> x.put(x.join(9, x.sort(0), id(x)), x.sort(0)), 2, 3, 1);
        costs("of a def", x -> x.put(x.global(x.def(id(x))), x.sort(0)), 3, 4, 1);
        costs("of a let", x -> x.put(x.let(1, x.sort(0), id(x)), x.sort(0)), 3, 4, 1);
        costs("what is put to is reduced later", x -> x.put(x.variable(0), x.put(id(x), x.sort(0))), 1, 1 + 2 + 3, 3);
        costs("what is not used is not reduced", x -> x.put(x.fun(1, loop(x), x.sort(0)), loop(x)), 2, 3, 1);
        costs("a told type is not reduced", x -> x.join(9, loop(x), x.sort(0)), 0, 1, 1);
        costs("a let's value that is not used", x -> x.let(1, loop(x), x.sort(0)), 1, 2, 1);
    }

    private static int loop(Probe x) {
        int self = x.fun(1, x.sort(0), x.put(x.variable(0), x.variable(0)));
        return x.put(self, self);
    }

    private static int binderOfRedexes(Probe x, int kind) {
        int redex = x.put(id(x), x.sort(0));
        return x.binder(kind, 1, redex, redex);
    }

    private static void nothingIsShared() {
        costs("both parts of a fun", x -> binderOfRedexes(x, 5), 0, 2 + 2 + 3, 3);
        costs("both parts of an all", x -> binderOfRedexes(x, 6), 0, 2 + 2 + 3, 3);
        costs("a def met twice", x -> {
            int d = x.global(x.def(x.sort(0)));
            return x.put(d, d);
        }, 1 + 1, 2 + 1 + 3, 3);
        costs("a let's value met twice", x -> {
            int v = x.variable(0);
            return x.let(1, x.put(id(x), x.sort(0)), x.put(v, v));
        }, 1 + 1 + 2, 4 + 2 + 3, 3);
        costs("a fun's term met twice", x -> {
            int v = x.variable(0);
            return x.put(x.fun(1, x.sort(0), x.put(v, v)), x.put(id(x), x.sort(0)));
        }, 2 + 1 + 2, 5 + 2 + 3, 3);
        costs("nodes of one term met twice", x -> {
            int v = x.variable(0);
            return x.let(1, x.all(1, x.sort(0), x.sort(0)), x.all(2, v, x.lift(v, 1)));
        }, 1, 1 + 7, 7);
    }

    /** f put to f's, n times, where f is id put to id's, m times: it costs 2 (n + 1) (m + 1) with its two lets. */
    private static int dear(Probe x, int n, int m) {
        int v = x.variable(0);
        int inner = v;
        for (int i = 0; i < m; i++) {
            inner = x.put(inner, v);
        }
        int outer = v;
        for (int i = 0; i < n; i++) {
            outer = x.put(outer, v);
        }
        return x.let(1, id(x), x.let(2, inner, outer));
    }

    private static void threeThousand() {
        Probe x = new Probe();
        int s = x.sort(0);
        int most = dear(x, 29, 49);
        Due.is("a head of cost 3000", x.head(most, 3000), 3000);
        Due.is("it is a fun", x.found(0), 5);
        Due.is("with 2999 it is OUT", x.head(most, 2999), OUT);
        int over = x.let(3, s, most);
        Due.is("a head of cost 3001", x.head(over, 3000), OUT);
        Due.is("its normal form costs more", x.normal(most, 3000, 3), OUT);
        Due.is("what was found stays", x.found(0), 5);
        Due.is("nothing came out", x.cost(), NONE);
    }

    private static void threeThousandForNormalForms() {
        Probe x = new Probe();
        int s = x.sort(0);
        // The head costs 2 * 14 * 107 = 2996 and is a fun of 3 nodes; a let makes 3000 of it.
        int less = dear(x, 13, 106);
        Due.is("a head of cost 2996", x.head(less, 2996), 2996);
        Due.is("a normal form of cost 2999", x.normal(less, 2999, 3), x.terms() - 1);
        Due.is("its cost", x.cost(), 2999);
        int most = x.let(3, s, less);
        Due.is("a normal form of cost 3000", x.normal(most, 3000, 3), x.terms() - 1);
        Due.is("its cost", x.cost(), 3000);
        Due.is("with 2999 it is OUT", x.normal(most, 2999, 3), OUT);
        int over = x.let(4, s, most);
        Due.is("a normal form of cost 3001", x.normal(over, 3000, 3), OUT);
        Due.is("its head is none too many", x.head(over, 3000), 2998);
        Due.is("cost of what came out", x.cost(), 3000);
    }

    private static void endless() {
        Probe x = new Probe();
        int loop = loop(x);
        int s = x.sort(0);
        int v = x.variable(0);
        int three = x.fun(1, s, x.put(v, v, v));
        int growing = x.put(three, three);
        for (int fuel : new int[] {1, 2, 3, 1000, 2999, 3000}) {
            Due.is("head of a loop", x.head(loop, fuel), OUT);
            Due.is("normal of a loop", x.normal(loop, fuel, 1), OUT);
            Due.is("head of what grows", x.head(growing, fuel), OUT);
            Due.is("normal of what grows", x.normal(growing, fuel, 1), OUT);
        }
        int under = x.fun(1, s, loop);
        int beside = x.put(v, loop);
        Due.is("head of a fun with a loop", x.head(under, 1), 0);
        Due.is("normal of a fun with a loop", x.normal(under, 3000, 1), OUT);
        Due.is("head of what is put to a loop", x.head(beside, 1), 1);
        Due.is("normal of what is put to a loop", x.normal(beside, 3000, 1), OUT);
        Due.is("nothing came out", x.cost(), NONE);
    }

    /** What was reduced as a rec's last part is not reduced again, however deep it lies. */
    private static int recs(Probe x, int deep) {
        int s = x.sort(0);
        int f = x.put(x.rec(x.family(0, 0, 0), 0), s);
        int t = x.put(id(x), x.put(x.variable(0), x.put(id(x), s)));
        for (int n = 0; n < deep; n++) {
            t = x.put(f, t);
        }
        return t;
    }

    private static void recsThatStay() {
        // the last part: id put to (v (id s)) costs 3, and 2 more for its own part; v s has 3 nodes
        costs("no rec", x -> recs(x, 0), 3, 3 + 2 + 3, 3);
        costs("a rec that stays", x -> recs(x, 1), 2 + 3, 5 + 2 + 7, 7);
        costs("a rec of it", x -> recs(x, 2), 4 + 3, 7 + 2 + 11, 11);
        costs("recs of them", x -> recs(x, 9), 18 + 3, 21 + 2 + 39, 39);
    }

    /** What a call that was OUT left undone is not done by the next one. */
    private static void afterOut() {
        Probe x = new Probe();
        int s = x.sort(7);
        int v = x.variable(3);
        int loop = loop(x);
        int f = x.put(x.rec(x.family(0, 0, 1), 0), s, v);
        x.constructor(1, x.global(0));
        int waits = x.put(f, x.put(f, loop));
        int left = x.all(1, loop, x.all(2, v, v));
        int right = x.put(v, v, v, v, loop);
        for (int fuel : new int[] {3, 6, 50, 3000}) {
            Due.is("a rec that waits for ever", x.head(waits, fuel), OUT);
            Due.is("another head", x.head(s, 1), 0);
            Due.is("its kind", x.found(0), 2);
            Due.is("its terms", x.found(2), 0);
            Due.is("a constructor", x.head(x.global(1), 1), 0);
            Due.is("its kind", x.found(0), 1);
            Due.is("a rec that waits for ever", x.normal(waits, fuel, 1), OUT);
            Due.is("another normal form", x.normal(v, 1, 1), x.terms() - 1);
            Due.is("its cost", x.cost(), 1);
            Due.is("an all with an endless part", x.normal(left, fuel, 1), OUT);
            Due.is("another normal form", x.normal(x.put(v, s), 4, 3), x.terms() - 1);
            Due.is("its cost", x.cost(), 4);
            Due.is("what is put to an endless term", x.normal(right, fuel, 1), OUT);
            Due.is("another normal form", x.normal(x.all(1, s, s), 3, 3), x.terms() - 1);
            Due.is("its cost", x.cost(), 3);
            Due.is("its last part", x.part(x.terms() - 1, 2, 1), 7);
        }
    }

    /** Numbers by a rec, asked again and again: calls do not wear the object out. */
    private static void againAndAgain() {
        Probe x = new Probe();
        x.family(0, 0, 2);
        int d = x.global(0);
        x.constructor(1, d);
        x.constructor(2, x.all(0, d, d));
        int step = x.fun(1, d, x.fun(2, d, x.put(x.global(2), x.variable(0))));
        int n = x.global(1);
        for (int i = 0; i < 30; i++) {
            n = x.put(x.global(2), n);
        }
        int t = x.put(x.rec(0, 0), d, x.global(1), step, n);
        int cost = 5 + 30 * 11 + 61;
        for (int i = 0; i < 60; i++) {
            Due.is("a head", x.head(t, 3000), 4 + 1 + 1 + 2 + 2 + 1);
            Due.is("a normal form", x.normal(t, 3000, 61), x.terms() - 1);
            Due.is("its cost", x.cost(), cost);
            Due.is("it may be OUT", x.normal(t, cost - 1, 61), OUT);
        }
    }

    public static void main(String[] args) {
        whatStays();
        whatBecomes();
        applications();
        nothingIsShared();
        threeThousand();
        threeThousandForNormalForms();
        endless();
        recsThatStay();
        afterOut();
        againAndAgain();
        Due.end();
    }
}

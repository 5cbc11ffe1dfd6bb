/** Promises 10 to 13: heads, what was found, normal forms and what they cost. */
public final class ReducingTest {
    private static final int NONE = ClosureMachine.NONE;
    private static final int OUT = ClosureMachine.OUT;

    private ReducingTest() {
    }

    private static void head(ClosureMachine x, String what, int t, int... due) {
        Due.is(what + ": head", x.head(t, 3000), due[0]);
        Due.is(what + ": kind", x.found(0), due[1]);
        Due.is(what + ": number", x.found(1), due[2]);
        Due.is(what + ": terms", x.found(2), due[3]);
    }

    /** A normal form by its cost and the kinds and numbers of its parts. */
    private static int normal(ClosureMachine x, String what, int t, int cost, int... parts) {
        int before = x.terms();
        int made = x.normal(t, 3000);
        Due.is(what + ": normal", made, before);
        Due.is(what + ": cost", x.cost(), cost);
        Due.is(what + ": terms", x.terms(), before + 1);
        for (int i = 0; 2 * i < parts.length; i++) {
            Due.is(what + ": kind of part " + i, x.part(made, i, 0), parts[2 * i]);
            Due.is(what + ": number of part " + i, x.part(made, i, 1), parts[2 * i + 1]);
        }
        Due.is(what + ": no more parts", x.part(made, parts.length / 2, 0), NONE);
        return made;
    }

    private static int put(ClosureMachine x, int f, int... terms) {
        int t = f;
        for (int a : terms) {
            t = x.join(4, t, a);
        }
        return t;
    }

    private static void whatStays() {
        ClosureMachine x = new ClosureMachine();
        x.family(0, 0, 1);
        x.axiom();
        int v = x.leaf(0, 199, 0);
        int s = x.leaf(2, 4, 0);
        head(x, "variable", v, 0, 0, 199, 0);
        head(x, "sort", s, 0, 2, 4, 0);
        head(x, "family", x.leaf(1, 0, 0), 0, 1, 0, 0);
        head(x, "constructor", x.leaf(1, 1, 0), 0, 1, 1, 0);
        head(x, "axiom", x.leaf(1, 2, 0), 0, 1, 2, 0);
        head(x, "rec", x.leaf(3, 0, 7), 0, 3, 0, 0);
        int redex = put(x, x.binder(5, 1, s, x.leaf(0, 0, 0)), s);
        int fun = x.binder(5, 8, redex, redex);
        int all = x.binder(6, NONE, redex, redex);
        head(x, "fun", fun, 0, 5, 8, 0);
        head(x, "all", all, 0, 6, NONE, 0);
        head(x, "all put to terms", put(x, all, s, v, fun), 3, 6, NONE, 3);
        head(x, "variable put to a term", put(x, v, redex), 1, 0, 199, 1);
        normal(x, "fun", fun, 7, 5, 8, 2, 4, 2, 4);
        normal(x, "all put to a term", put(x, all, redex), 1 + 2 + 2 + 2 + 5, 4, 0, 6, NONE, 2, 4, 2, 4, 2, 4);
        int rec = normal(x, "rec", x.leaf(3, 0, 7), 1, 3, 0);
        Due.is("sort of a rec", x.part(rec, 0, 2), 7);
    }

    private static void whatIsUnfolded() {
        ClosureMachine x = new ClosureMachine();
        int s = x.leaf(2, 4, 0);
        int v0 = x.leaf(0, 0, 0);
        int v1 = x.leaf(0, 1, 0);
        int d = x.def(x.leaf(2, 9, 0));
        int dd = x.def(x.leaf(1, d, 0));
        head(x, "def", x.leaf(1, d, 0), 1, 2, 9, 0);
        head(x, "def of a def", x.leaf(1, dd, 0), 2, 2, 9, 0);
        normal(x, "def", x.leaf(1, dd, 0), 3, 2, 9);
        head(x, "let", x.binder(7, 3, s, v0), 1, 2, 4, 0);
        head(x, "let with a loose variable", x.binder(7, 3, s, v1), 1, 0, 0, 0);
        head(x, "a redex", put(x, x.binder(5, 3, s, v1), s), 2, 0, 0, 0);
        int twice = x.binder(7, 0, x.leaf(1, d, 0), put(x, put(x, v1, v0), v0));
        normal(x, "nothing is shared", twice, 1 + 2 + 2 + 5, 4, 0, 4, 0, 0, 0, 2, 9, 2, 9);
        int told = x.join(9, x.leaf(0, 50, 0), x.lift(x.join(9, s, v1), 2));
        head(x, "told and lifted ones cost nothing", told, 0, 0, 3, 0);
        normal(x, "told and lifted ones are gone", x.binder(5, 2, told, told), 3, 5, 2, 0, 3, 0, 3);
        int under = x.binder(5, 1, s, x.lift(x.binder(5, 2, v0, put(x, v0, v1)), 1));
        normal(x, "lifted over its own binder", under, 7 + 1, 5, 1, 2, 4, 5, 2, 0, 1, 4, 0, 0, 0, 0, 2);
        int capture = put(x, x.binder(5, 1, s, x.binder(5, 2, s, v1)), v0);
        normal(x, "nothing is captured", capture, 1 + 1 + 3, 5, 2, 2, 4, 0, 1);
        int many = x.lift(x.lift(v1, 199), 199);
        head(x, "more than 199", many, 0, 0, 399, 0);
        normal(x, "more than 199", x.binder(5, 0, many, many), 3, 5, 0, 0, 399, 0, 399);
    }

    private static void fuel() {
        ClosureMachine x = new ClosureMachine();
        int s = x.leaf(2, 4, 0);
        int v0 = x.leaf(0, 0, 0);
        int self = x.binder(5, 0, s, put(x, v0, v0));
        int loop = put(x, self, self);
        int step = put(x, x.binder(5, 0, s, v0), s);
        Due.is("a loop", x.head(loop, 3000), OUT);
        Due.is("a loop", x.normal(loop, 3000), OUT);
        Due.is("none was found", x.found(0), NONE);
        Due.is("none came out", x.cost(), NONE);
        Due.is("just enough", x.head(step, 2), 2);
        Due.is("not enough", x.head(step, 1), OUT);
        Due.is("what was found stays", x.found(1), 4);
        Due.is("not enough for the node", x.normal(step, 2), OUT);
        int made = x.normal(step, 3);
        Due.is("enough for the node", made, x.terms() - 1);
        Due.is("cost", x.cost(), 3);
        for (int fuel : new int[] {Integer.MIN_VALUE, -1, 0, 3001, Integer.MAX_VALUE}) {
            Due.is("fuel " + fuel, x.head(v0, fuel), NONE);
            Due.is("fuel " + fuel, x.normal(v0, fuel), NONE);
        }
        for (int t : new int[] {Integer.MIN_VALUE, -1, x.terms(), Integer.MAX_VALUE}) {
            Due.is("no term", x.head(t, 5), NONE);
            Due.is("no term", x.normal(t, 5), NONE);
        }
        Due.is("out or refused, it stays", x.cost(), 3);
        Due.is("normal does not tell a head", x.normal(v0, 1), made + 1);
        Due.is("kind", x.found(0), 2);
        Due.is("number", x.found(1), 4);
        Due.is("terms", x.found(2), 0);
        for (int what : new int[] {Integer.MIN_VALUE, -1, 3, Integer.MAX_VALUE}) {
            Due.is("found what is none", x.found(what), NONE);
        }
        Due.is("a head does not change the cost", x.head(step, 9), 2);
        Due.is("cost", x.cost(), 1);
        int unused = put(x, x.binder(5, 0, s, s), loop);
        Due.is("what is not used is not reduced", x.normal(unused, 3), x.terms() - 1);
    }

    /** A family (0, 0, 2) like the numbers: global 0, zero 1, next 2. */
    private static ClosureMachine numbers() {
        ClosureMachine x = new ClosureMachine();
        x.family(0, 0, 2);
        int n = x.leaf(1, 0, 0);
        x.constructor(1, n);
        x.constructor(2, x.binder(6, 7, n, n));
        return x;
    }

    private static void recs() {
        ClosureMachine x = numbers();
        int s = x.leaf(2, 4, 0);
        int zero = x.leaf(1, 1, 0);
        int next = x.leaf(1, 2, 0);
        int v0 = x.leaf(0, 0, 0);
        int again = x.binder(5, 1, s, x.binder(5, 2, s, v0));
        int f = put(x, x.leaf(3, 0, 3), s, v0, again);
        head(x, "without its last part", f, 3, 3, 0, 3);
        head(x, "of zero", put(x, f, zero), 4 + 1, 0, 0, 0);
        int one = put(x, next, zero);
        head(x, "of one", put(x, f, one), 4 + 1 + 1 + 2 + 2 + 4 + 1, 0, 0, 0);
        head(x, "of one, put to more", put(x, f, one, s), 16, 0, 0, 1);
        head(x, "of next alone", put(x, f, next), 4, 3, 0, 4);
        head(x, "of next with too much", put(x, f, put(x, one, zero)), 6, 3, 0, 4);
        head(x, "of a variable, put to more", put(x, f, v0, one, zero), 6, 3, 0, 6);
        int stuck = put(x, f, put(x, x.binder(5, 0, s, v0), v0));
        int[] due = {4, 0, 4, 0, 4, 0, 4, 0, 3, 0, 2, 4, 0, 0, 5, 1, 2, 4, 5, 2, 2, 4, 0, 0, 0, 0};
        int made = normal(x, "the last part is reduced once", stuck, 4 + 2 + 13, due);
        Due.is("sort", x.part(made, 4, 2), 3);
        due[12] = due[13] = 0;
        normal(x, "it comes out again", made, 4 + 13, due);
        int own = put(x, f, put(x, f, stuck));
        Due.is("recs of recs that stay", x.head(own, 3000), 4 + 4 + 4 + 2);
        Due.is("normal", x.normal(own, 3000), x.terms() - 1);
        Due.is("cost", x.cost(), 14 + 12 + 12 + 13);
        lateTypes(x, s, v0);
    }

    private static void lateTypes(ClosureMachine x, int s, int v0) {
        int g = x.family(0, 0, 1);
        int t = put(x, x.leaf(3, g, 0), s, v0, x.leaf(1, g + 1, 0));
        head(x, "a constructor without type", t, 3, 3, g, 3);
        x.constructor(g + 1, x.leaf(1, g, 0));
        head(x, "a constructor with type", t, 4, 0, 0, 0);
        int other = put(x, x.leaf(3, g, 0), s, v0, x.leaf(1, 1, 0));
        head(x, "a constructor of another family", other, 3, 3, g, 3);
    }

    /**
     * A family with a parameter and an index whose one constructor has an argument u, and another one
     * from all y : u, z : y on into the family put to (z y).
     */
    private static void hypotheses() {
        ClosureMachine x = new ClosureMachine();
        x.family(1, 1, 1);
        int s = x.leaf(2, 0, 0);
        int[] v = new int[5];
        for (int i = 0; i < v.length; i++) {
            v[i] = x.leaf(0, i, 0);
        }
        int d = x.leaf(1, 0, 0);
        int argument = x.binder(6, 10, v[0], x.binder(6, 11, v[0], put(x, d, v[3], put(x, v[0], v[1]))));
        int end = put(x, d, v[2], v[1]);
        int type = x.binder(6, 1, s, x.binder(6, 2, v[0], x.binder(6, 3, argument, end)));
        Due.is("type", x.constructor(1, type), 1);
        int a = x.leaf(2, 21, 0);
        int m = x.leaf(2, 22, 0);
        int index = x.leaf(2, 23, 0);
        int u = x.leaf(2, 24, 0);
        int f = x.leaf(0, 8, 0);
        int c = x.leaf(0, 9, 0);
        int made = put(x, x.leaf(1, 1, 0), x.leaf(2, 25, 0), u, f);
        int t = put(x, x.leaf(3, 0, 6), a, m, c, index, made);
        head(x, "C put to the arguments and one hypothesis", t, 5 + 3 + 1 + 3, 0, 9, 3);
        // c u f (fun y : u => fun z : y => rec a m c (z y) (f y z)), that rec staying
        int[] due = {4, 0, 4, 0, 4, 0, 0, 9, 2, 24, 0, 8, 5, 10, 2, 24, 5, 11, 0, 0, 4, 0, 4, 0, 4, 0, 4, 0, 4, 0, 3, 0,
            2, 21, 2, 22, 0, 11, 4, 0, 0, 0, 0, 1, 4, 0, 4, 0, 0, 10, 0, 1, 0, 0};
        normal(x, "a hypothesis", t, 12 + 5 + 2 + 1 + due.length / 2, due);
        int third = x.binder(5, 0, s, x.binder(5, 1, s, x.binder(5, 2, s, v[0])));
        int h = put(x, x.leaf(3, 0, 6), a, m, third, index, made);
        head(x, "the hypothesis alone", h, 12 + 3, 5, 10, 0);
        head(x, "put to one term", put(x, h, s), 15 + 2, 5, 11, 0);
        head(x, "put to both", put(x, h, s, s), 15 + 4 + 5 + 2, 3, 0, 5);
    }

    /** Alls of so many nodes, an odd number, whose heads cost nothing. */
    private static int alls(ClosureMachine x, int nodes) {
        if (nodes == 1) {
            return x.leaf(2, 0, 0);
        }
        int half = (nodes - 1) / 2;
        int first = alls(x, half % 2 == 1 ? half : half - 1);
        return x.binder(6, 0, first, half % 2 == 1 ? first : alls(x, half + 1));
    }

    /** let v := alls of so many nodes, under it an all of v and an all of v and v. */
    private static int three(ClosureMachine x, int nodes) {
        int inner = x.binder(6, 2, x.leaf(0, 1, 0), x.leaf(0, 2, 0));
        return x.binder(7, 0, alls(x, nodes), x.binder(6, 1, x.leaf(0, 0, 0), inner));
    }

    private static void limits() {
        ClosureMachine x = new ClosureMachine();
        int big = three(x, 667);
        int terms = x.terms();
        Due.is("2003 nodes are too many", x.normal(big, 3000), NONE);
        Due.is("nothing came out", x.cost(), NONE);
        Due.is("no term more", x.terms(), terms);
        Due.is("cost 2004", x.normal(big, 2004), NONE);
        Due.is("cost 2004", x.normal(big, 2003), OUT);
        int fits = three(x, 665);
        Due.is("1997 nodes", x.normal(fits, 1998), x.terms() - 1);
        Due.is("cost", x.cost(), 1998);
        Due.is("its last part", x.part(x.terms() - 1, 1996, 0), 2);
        Due.is("no more parts", x.part(x.terms() - 1, 1997, 0), NONE);
        Due.is("too many nodes again", x.normal(big, 3000), NONE);
        Due.is("the cost stays", x.cost(), 1998);
    }

    public static void main(String[] args) {
        whatStays();
        whatIsUnfolded();
        fuel();
        recs();
        hypotheses();
        limits();
        Due.end();
    }
}

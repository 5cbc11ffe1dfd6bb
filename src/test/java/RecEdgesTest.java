/**
 * What 'Terms' says of rec: how many parts it wants, which constructor's terms it takes, what then
 * comes and what that costs, each with one too few, just enough and one too many.
 */
public final class RecEdgesTest {
    private static final int NONE = Probe.NONE;
    private static final int[][] SHAPES = {{0, 0, 1}, {0, 0, 2}, {0, 0, 5}, {1, 0, 1}, {0, 1, 1}, {4, 0, 1}, {0, 4, 1},
        {1, 1, 1}, {2, 3, 4}, {4, 4, 5}};

    private RecEdgesTest() {
    }

    private static void head(Probe x, String what, int t, int cost, int kind, int number, int terms) {
        Due.is(what + ": head", x.head(t, 3000), cost);
        Due.is(what + ": kind", x.found(0), kind);
        Due.is(what + ": number", x.found(1), number);
        Due.is(what + ": terms", x.found(2), terms);
    }

    /** Family 0 of that shape, each constructor without arguments. */
    private static Probe withFamily(int parameters, int indices, int constructors) {
        Probe x = new Probe();
        x.family(parameters, indices, constructors);
        int type = x.global(0);
        for (int p = 0; p < parameters; p++) {
            type = x.put(type, x.variable(parameters - 1 - p));
        }
        for (int i = 0; i < indices; i++) {
            type = x.put(type, x.sort(i));
        }
        for (int p = 0; p < parameters; p++) {
            type = x.all(p, x.sort(0), type);
        }
        for (int c = 1; c <= constructors; c++) {
            Due.is("type", x.constructor(c, type), 0);
        }
        return x;
    }

    /** The rec with so many of its parts, the part C of constructor c being variable 100 + c. */
    private static int rec(Probe x, int[] shape, int parts) {
        int t = x.rec(0, 7);
        for (int n = 0; n < parts; n++) {
            int c = n - shape[0];
            t = x.put(t, c >= 1 && c <= shape[2] ? x.variable(100 + c) : x.sort(n));
        }
        return t;
    }

    private static int constructor(Probe x, int c, int terms) {
        int t = x.global(c);
        for (int n = 0; n < terms; n++) {
            t = x.put(t, x.sort(50 + n));
        }
        return t;
    }

    private static void howManyParts() {
        for (int[] shape : SHAPES) {
            Probe x = withFamily(shape[0], shape[1], shape[2]);
            String what = "family(" + shape[0] + ", " + shape[1] + ", " + shape[2] + ")";
            int before = shape[0] + 1 + shape[2] + shape[1];
            for (int parts = 0; parts < before; parts++) {
                head(x, what + " with " + parts + " parts", rec(x, shape, parts), parts, 3, 0, parts);
            }
            int f = rec(x, shape, before);
            head(x, what + " without its last part", f, before, 3, 0, before);
            for (int c = 1; c <= shape[2]; c++) {
                int all = x.put(f, constructor(x, c, shape[0]));
                int cost = before + 1 + shape[0] + 1;
                head(x, what + " with all parts", all, cost, 0, 100 + c, 0);
                head(x, what + " with one term more", x.put(all, x.sort(0)), cost + 1, 0, 100 + c, 1);
            }
            int few = shape[0] - 1;
            if (few >= 0) {
                int t = x.put(f, constructor(x, 1, few));
                head(x, what + " of a constructor with a term too few", t, before + 1 + few, 3, 0, before + 1);
            }
            int many = shape[0] + 1;
            int t = x.put(f, constructor(x, 1, many));
            head(x, what + " of a constructor with a term too many", t, before + 1 + many, 3, 0, before + 1);
        }
    }

    private static void whatElseTheLastPartMayBe() {
        Probe x = withFamily(0, 0, 1);
        x.family(0, 0, 1);
        x.axiom();
        int f = rec(x, new int[] {0, 0, 1}, 2);
        int s = x.sort(0);
        int c = x.global(1);
        head(x, "its constructor", x.put(f, c), 3 + 1, 0, 101, 0);
        head(x, "a constructor of another family", x.put(f, x.global(3)), 3, 3, 0, 3);
        head(x, "its family", x.put(f, x.global(0)), 3, 3, 0, 3);
        head(x, "an axiom", x.put(f, x.global(4)), 3, 3, 0, 3);
        head(x, "a sort", x.put(f, s), 3, 3, 0, 3);
        head(x, "a variable", x.put(f, x.variable(2)), 3, 3, 0, 3);
        head(x, "a rec", x.put(f, x.rec(0, 1)), 3, 3, 0, 3);
        head(x, "a rec without its last part", x.put(f, f), 3 + 2, 3, 0, 3);
        head(x, "a rec that stays", x.put(f, x.put(f, s)), 3 + 3, 3, 0, 3);
        head(x, "a fun", x.put(f, x.fun(1, s, c)), 3, 3, 0, 3);
        head(x, "an all", x.put(f, x.all(1, s, c)), 3, 3, 0, 3);
        head(x, "a def of its constructor", x.put(f, x.global(x.def(c))), 3 + 1 + 1, 0, 101, 0);
        head(x, "a let with its constructor", x.put(f, x.let(1, c, x.variable(0))), 3 + 1 + 1, 0, 101, 0);
        head(x, "a redex with its constructor", x.put(f, x.put(x.fun(1, s, x.variable(0)), c)), 3 + 2 + 1, 0, 101, 0);
        head(x, "a told constructor", x.put(f, x.join(9, s, c)), 3 + 1, 0, 101, 0);
        int toldRec = x.put(x.join(9, s, x.put(x.join(9, s, x.rec(0, 1)), s)), x.variable(101), c);
        head(x, "a told rec, and told again with a part", toldRec, 3 + 1, 0, 101, 0);
        int lifted = x.put(x.lift(x.put(x.rec(0, 1), s, x.variable(3)), 5), x.lift(x.join(9, x.variable(0), c), 9));
        head(x, "a lifted rec and a lifted constructor", lifted, 3 + 1, 0, 8, 0);
        int itself = rec(x, new int[] {0, 0, 1}, 1);
        int twice = x.put(itself, c, x.put(itself, c, c));
        head(x, "what a rec becomes", twice, 3 + 3 + 1 + 1, 1, 1, 0);
    }

    private static void withoutConstructors() {
        Probe x = withFamily(0, 0, 0);
        int s = x.sort(4);
        int d = x.def(s);
        int t = x.put(x.rec(0, 7), s, x.global(d));
        head(x, "its last part is reduced", t, 2 + 1, 3, 0, 2);
        int made = x.normal(t, 3000, 5);
        Due.is("its normal form", made, x.terms() - 1);
        Due.is("what was reduced is not again", x.cost(), 2 + 1 + 5);
        Due.is("the last part", x.part(made, 4, 0), 2);
        Due.is("sort of the rec", x.part(made, 2, 2), 7);
        int more = x.put(t, x.global(d));
        head(x, "put to more", more, 3 + 1, 3, 0, 3);
        Due.is("its normal form", x.normal(more, 3000, 7), x.terms() - 1);
        Due.is("what comes behind is reduced", x.cost(), 3 + 1 + 1 + 7);
        Probe y = withFamily(4, 4, 0);
        int u = rec(y, new int[] {4, 4, 0}, 9);
        head(y, "nine parts", u, 9, 3, 0, 9);
        head(y, "ten parts", y.put(u, y.global(y.def(y.sort(0)))), 10 + 1, 3, 0, 10);
    }

    private static void withoutType() {
        Probe x = new Probe();
        x.family(0, 0, 2);
        int d = x.global(0);
        x.constructor(1, d);
        int v = x.variable(3);
        int f = x.put(x.rec(0, 0), x.sort(0), v, x.variable(4));
        int open = x.put(f, x.global(2));
        int one = x.put(f, x.put(x.global(2), d));
        head(x, "its type was told", x.put(f, x.global(1)), 4 + 1, 0, 3, 0);
        head(x, "its type was not told", open, 4, 3, 0, 4);
        head(x, "its type was not told, with a term", one, 5, 3, 0, 4);
        x.constructor(2, x.all(0, v, d));
        head(x, "a type that is refused", open, 4, 3, 0, 4);
        x.constructor(2, d);
        head(x, "its type is told now", open, 4 + 1, 0, 4, 0);
        head(x, "its type is told now, with a term", one, 5, 3, 0, 4);
    }

    /** Family 0 with one constructor of so many arguments, recursive where told. */
    private static Probe withArguments(boolean... recursive) {
        Probe x = new Probe();
        x.family(0, 0, 1);
        int d = x.global(0);
        int type = d;
        for (int n = recursive.length - 1; n >= 0; n--) {
            type = x.all(n, recursive[n] ? d : x.sort(0), type);
        }
        x.constructor(1, type);
        return x;
    }

    private static void arguments(boolean... recursive) {
        Probe x = withArguments(recursive);
        int n = recursive.length;
        int hypotheses = 0;
        for (boolean r : recursive) {
            hypotheses += r ? 1 : 0;
        }
        int f = x.put(x.rec(0, 0), x.sort(0), x.variable(101));
        for (int terms = 0; terms <= n + 1; terms++) {
            String what = n + " arguments, " + hypotheses + " recursive, put to " + terms;
            int t = x.put(f, constructor(x, 1, terms));
            boolean taken = terms == n;
            int cost = 3 + terms + (taken ? 1 + n + hypotheses : 0);
            head(x, what, t, cost, taken ? 0 : 3, taken ? 101 : 0, taken ? n + hypotheses : 3);
            if (taken) {
                // C put to sorts, and to a rec of each recursive one, which stays, of 3 parts
                int nodes = 1 + 2 * n + (1 + 7) * hypotheses;
                Due.is(what + ": normal", x.normal(t, 3000, nodes), x.terms() - 1);
                Due.is(what + ": cost", x.cost(), cost + 3 * hypotheses + nodes);
            }
        }
    }

    private static void howManyArguments() {
        arguments();
        arguments(false);
        arguments(true);
        arguments(false, true);
        arguments(true, false);
        arguments(true, true);
        arguments(true, false, true, false, false, true);
    }

    /** Terms first, in order, then hypotheses, in order of their arguments. */
    private static void inOrder() {
        Probe x = withArguments(true, false, true);
        int f = x.put(x.rec(0, 0), x.sort(0), x.variable(9));
        int made = x.normal(x.put(f, constructor(x, 1, 3)), 3000, 23);
        int[][] due = {{4, 0}, {4, 0}, {4, 0}, {4, 0}, {4, 0}, {0, 9}, {2, 50}, {2, 51}, {2, 52}, {4, 0}, {4, 0}, {4, 0},
            {3, 0}, {2, 0}, {0, 9}, {2, 50}, {4, 0}, {4, 0}, {4, 0}, {3, 0}, {2, 0}, {0, 9}, {2, 52}};
        for (int i = 0; i < due.length; i++) {
            Due.is("kind of part " + i, x.part(made, i, 0), due[i][0]);
            Due.is("number of part " + i, x.part(made, i, 1), due[i][1]);
        }
    }

    /**
     * Two parameters A and B, an index, and the arguments u : A and w : all y : B, all z : u y => the
     * family put to A, B and (A B u y z): the rec's own parameters and the constructor's u are in it.
     */
    private static void ownParametersAndArgumentsBefore() {
        Probe x = new Probe();
        x.family(2, 1, 1);
        int[] v = new int[5];
        for (int i = 0; i < v.length; i++) {
            v[i] = x.variable(i);
        }
        int d = x.global(0);
        int index = x.put(v[4], v[3], v[2], v[1], v[0]);
        int w = x.all(11, v[1], x.all(NONE, x.put(v[1], v[0]), x.put(d, v[4], v[3], index)));
        int end = x.put(d, v[3], v[2], x.sort(0));
        int type = x.all(1, x.sort(0), x.all(2, x.sort(0), x.all(3, v[1], x.all(4, w, end))));
        Due.is("type", x.constructor(1, type), 1);
        int made = x.put(x.global(1), x.sort(91), x.sort(92), x.sort(93), x.variable(20));
        int f = x.put(x.rec(0, 6), x.sort(81), x.sort(82), x.sort(83), x.variable(30), x.sort(84));
        int t = x.put(f, made);
        head(x, "its part C", t, 6 + 4 + 1 + 3, 0, 30, 3);
        // c u w (fun y : b => fun z : u y => rec a b m c (a b u y z) (w y z))
        int[][] due = {{4, 0}, {4, 0}, {4, 0}, {0, 30}, {2, 93}, {0, 20}, {5, 11}, {2, 82}, {5, NONE}, {4, 0}, {2, 93},
            {0, 0}, {4, 0}, {4, 0}, {4, 0}, {4, 0}, {4, 0}, {4, 0}, {3, 0}, {2, 81}, {2, 82}, {2, 83}, {0, 32}, {4, 0},
            {4, 0}, {4, 0}, {4, 0}, {2, 81}, {2, 82}, {2, 93}, {0, 1}, {0, 0}, {4, 0}, {4, 0}, {0, 22}, {0, 1}, {0, 0}};
        int normal = x.normal(t, 3000, due.length);
        // heads: C's own, the type u y, the rec, its last part, its index
        Due.is("cost", x.cost(), 14 + 1 + 6 + 2 + 4 + due.length);
        for (int i = 0; i < due.length; i++) {
            Due.is("kind of part " + i, x.part(normal, i, 0), due[i][0]);
            Due.is("number of part " + i, x.part(normal, i, 1), due[i][1]);
        }
        Due.is("sort of the rec in it", x.part(normal, 18, 2), 6);
    }

    /**
     * Family 0 has two indices and one constructor: its argument w comes from so many alls y, and is
     * of the family put to (sort 8 y) or sort 8, and to sort 9. The rec's part C is fun w h => h.
     */
    private static int hypothesis(Probe x, int ys) {
        x.family(0, 2, 1);
        int s = x.sort(0);
        int first = ys > 0 ? x.put(x.sort(8), x.variable(0)) : x.sort(8);
        int type = x.put(x.global(0), first, x.sort(9));
        for (int y = ys; y > 0; y--) {
            type = x.all(20 + y, s, type);
        }
        x.constructor(1, x.all(1, type, x.put(x.global(0), s, s)));
        int c = x.fun(2, s, x.fun(3, s, x.variable(0)));
        return x.put(x.rec(0, 0), x.sort(6), c, s, s, x.put(x.global(1), x.variable(30)));
    }

    private static void hypothesesPutToTerms() {
        for (int ys = 0; ys <= 3; ys++) {
            Probe x = new Probe();
            int t = hypothesis(x, ys);
            // five parts, the constructor's term, C put to two, which are bound
            int cost = 5 + 1 + 1 + 2 + 2;
            for (int terms = 0; terms <= ys + 2; terms++) {
                String what = ys + " ys, put to " + terms;
                if (terms < ys) {
                    head(x, what, t, cost + 2 * terms, 5, 21 + terms, 0);
                } else {
                    head(x, what, t, cost + terms + ys + 5 + ys, 3, 0, 5 + terms - ys);
                }
                if (terms == ys) {
                    normalOfHypothesis(x, what, t, ys);
                }
                t = x.put(t, x.variable(40 + terms));
            }
        }
    }

    /** rec m c (sort 8 y) (sort 9) (w y ..) with the variables from 40 on as its ys. */
    private static void normalOfHypothesis(Probe x, String what, int t, int ys) {
        int index = ys > 0 ? 3 : 1;
        int nodes = 5 + 1 + 1 + 5 + index + 1 + 1 + 2 * ys;
        int made = x.normal(t, 3000, nodes);
        Due.is(what + ": cost", x.cost(), 11 + 5 + 3 * ys + (ys > 0 ? 1 : 0) + nodes);
        Due.is(what + ": rec", x.part(made, 5, 0), 3);
        Due.is(what + ": M", x.part(made, 6, 1), 6);
        Due.is(what + ": C", x.part(made, 7, 0), 5);
        int at = 12 + index - (ys > 0 ? 2 : 1);
        Due.is(what + ": the first index", x.part(made, at, 1), 8);
        if (ys > 0) {
            Due.is(what + ": the last y", x.part(made, at + 1, 1), 40 + ys - 1);
        }
        Due.is(what + ": the second index", x.part(made, 12 + index, 1), 9);
        Due.is(what + ": w", x.part(made, 13 + index + ys, 1), 30);
        for (int y = 0; y < ys; y++) {
            Due.is(what + ": y " + y, x.part(made, 14 + index + ys + y, 1), 40 + y);
        }
    }

    /** Numbers: zero is global 1, next is global 2; a rec of n costs 5 and 10 for each next. */
    private static void numbers() {
        Probe x = new Probe();
        x.family(0, 0, 2);
        int d = x.global(0);
        int zero = x.global(1);
        int next = x.global(2);
        x.constructor(1, d);
        x.constructor(2, x.all(0, d, d));
        int step = x.fun(1, d, x.fun(2, d, x.variable(0)));
        int f = x.put(x.rec(0, 0), d, x.variable(50), step);
        int n = zero;
        for (int i = 0; i <= 20; i++) {
            head(x, "rec of " + i, x.put(f, n), 5 + i * (1 + 1 + 2 + 2 + 4), 0, 50, 0);
            n = x.put(next, n);
        }
        head(x, "rec of next alone", x.put(f, next), 4, 3, 0, 4);
        head(x, "rec of one and a term more", x.put(f, x.put(next, zero, zero)), 4 + 2, 3, 0, 4);
        int open = x.put(next, x.put(next, x.variable(60)));
        head(x, "rec of two more than a variable", x.put(f, open), 4 + 20, 3, 0, 4);
    }

    public static void main(String[] args) {
        howManyParts();
        whatElseTheLastPartMayBe();
        withoutConstructors();
        withoutType();
        howManyArguments();
        inOrder();
        ownParametersAndArgumentsBefore();
        hypothesesPutToTerms();
        numbers();
        Due.end();
    }
}

/**
 * Promise 9 and what 'Terms' says of constructors: what is a constructor's type as it stands, which
 * arguments are recursive, and that these and no others bring a hypothesis.
 */
public final class TypesTest {
    private static final int NONE = Probe.NONE;
    private static final int FAMILY = 0;
    private static final int CONSTRUCTOR = 1;

    private TypesTest() {
    }

    /** Makes a term that lies under so many alls, the first of them telling the parameters. */
    private interface Under {
        int make(Probe x, int alls);
    }

    private static Probe withFamily(int parameters, int indices) {
        Probe x = new Probe();
        x.family(parameters, indices, 2);
        return x;
    }

    /** The family put to the variables of the first alls, and to sorts. */
    private static int family(Probe x, int parameters, int indices, int alls) {
        int t = x.global(FAMILY);
        for (int p = 0; p < parameters; p++) {
            t = x.put(t, x.variable(alls - 1 - p));
        }
        for (int i = 0; i < indices; i++) {
            t = x.put(t, x.sort(i));
        }
        return t;
    }

    private static int alls(Probe x, int count, int end) {
        int t = end;
        for (int n = 0; n < count; n++) {
            t = x.all(n, x.sort(n), t);
        }
        return t;
    }

    private static void numbersOfParametersAndIndices() {
        for (int p = 0; p <= 4; p++) {
            for (int i = 0; i <= 4; i++) {
                for (int n = 0; n <= 3; n++) {
                    String what = p + " parameters, " + i + " indices, " + n + " arguments";
                    Probe x = withFamily(p, i);
                    int type = family(x, p, i, p + n);
                    for (int a = n - 1; a >= 0; a--) {
                        type = x.all(a, a % 2 == 0 ? family(x, p, i, p + a) : x.sort(7), type);
                    }
                    Due.is(what, x.constructor(CONSTRUCTOR, alls(x, p, type)), (n + 1) / 2);
                    int fewer = i > 0 ? family(x, p, i - 1, p + n) : p > 0 ? family(x, p - 1, 0, p + n) : x.sort(0);
                    Due.is(what + ": a term too few", x.constructor(2, alls(x, p + n, fewer)), NONE);
                    int more = x.put(family(x, p, i, p + n), x.sort(0));
                    Due.is(what + ": a term too many", x.constructor(2, alls(x, p + n, more)), NONE);
                    Due.is(what + ": just enough", x.constructor(2, alls(x, p + n, family(x, p, i, p + n))), 0);
                }
            }
        }
    }

    private static void fourParametersInOrder() {
        int[][] wrong = {{2, 3, 1, 0}, {3, 1, 2, 0}, {3, 2, 0, 1}, {3, 3, 1, 0}, {0, 1, 2, 3}, {3, 2, 1, 1}, {2, 2, 1, 0}};
        for (int[] w : wrong) {
            Probe x = withFamily(4, 0);
            int end = x.put(x.global(FAMILY), x.variable(w[0]), x.variable(w[1]), x.variable(w[2]), x.variable(w[3]));
            Due.is("parameters in another order", x.constructor(CONSTRUCTOR, alls(x, 4, end)), NONE);
            int good = family(x, 4, 0, 5);
            int argument = alls(x, 4, x.all(9, end, good));
            Due.is("an argument with parameters in another order", x.constructor(CONSTRUCTOR, argument), 0);
            int recursive = alls(x, 4, x.all(9, family(x, 4, 0, 4), good));
            Due.is("an argument with parameters in order", x.constructor(2, recursive), 1);
        }
        Probe x = withFamily(4, 0);
        int shifted = x.put(x.global(FAMILY), x.variable(3), x.variable(2), x.variable(1), x.variable(0));
        Due.is("variables of the last four alls of five", x.constructor(CONSTRUCTOR, alls(x, 5, shifted)), NONE);
    }

    /** A type with one parameter and one index, made of its end; is it one? */
    private static void end(String what, int alls, Under under, int due) {
        Probe x = withFamily(1, 1);
        int type = alls(x, alls, under.make(x, alls));
        Due.is(what, x.constructor(CONSTRUCTOR, type), due);
        int good = alls(x, 1, family(x, 1, 1, 1));
        Due.is(what + ": what was refused may be told", x.constructor(CONSTRUCTOR, good), due == NONE ? 0 : NONE);
    }

    private static void whatIsNoType() {
        end("as it is due", 1, (x, n) -> family(x, 1, 1, n), 0);
        end("an argument", 2, (x, n) -> family(x, 1, 1, n), 0);
        end("too few alls", 0, (x, n) -> x.put(x.global(FAMILY), x.sort(0), x.sort(0)), NONE);
        end("a loose parameter", 0, (x, n) -> x.put(x.global(FAMILY), x.variable(0), x.sort(0)), NONE);
        end("a loose index", 1, (x, n) -> x.put(x.global(FAMILY), x.variable(0), x.variable(1)), NONE);
        end("a bound index", 1, (x, n) -> x.put(x.global(FAMILY), x.variable(0), x.variable(0)), 0);
        end("a sort for the parameter", 1, (x, n) -> x.put(x.global(FAMILY), x.sort(0), x.variable(0)), NONE);
        end("an argument for the parameter", 2, (x, n) -> x.put(x.global(FAMILY), x.variable(0), x.sort(0)), NONE);
        end("no family", 1, (x, n) -> x.put(x.variable(0), x.variable(0), x.sort(0)), NONE);
        end("a constructor", 1, (x, n) -> x.put(x.global(CONSTRUCTOR), x.variable(0), x.sort(0)), NONE);
        end("another family", 1, (x, n) -> x.put(x.global(x.family(1, 1, 0)), x.variable(0), x.sort(0)), NONE);
        end("a rec", 1, (x, n) -> x.put(x.rec(FAMILY, 0), x.variable(0), x.sort(0)), NONE);
        end("a def", 1, (x, n) -> x.put(x.global(x.def(x.global(FAMILY))), x.variable(0), x.sort(0)), NONE);
        end("a fun within", 1, (x, n) -> x.fun(0, x.sort(0), family(x, 1, 1, n + 1)), NONE);
        end("a let within", 1, (x, n) -> x.let(0, x.sort(0), family(x, 1, 1, n + 1)), NONE);
        end("a fun around", 0, (x, n) -> x.fun(0, x.sort(0), family(x, 1, 1, 1)), NONE);
        end("a let around", 0, (x, n) -> x.let(0, x.sort(0), family(x, 1, 1, 1)), NONE);
        end("a variable", 1, (x, n) -> x.variable(0), NONE);
        end("alls of a sort", 2, (x, n) -> x.sort(0), NONE);
    }

    private static int told(Probe x, int value) {
        return x.join(9, x.sort(9), value);
    }

    private static void asItStands() {
        end("told around", 0, (x, n) -> told(x, alls(x, 1, family(x, 1, 1, 1))), NONE);
        end("told for an all", 1, (x, n) -> told(x, x.all(0, x.sort(0), family(x, 1, 1, 2))), NONE);
        end("told for the family and its terms", 1, (x, n) -> told(x, family(x, 1, 1, 1)), NONE);
        end("told for the family and a term", 1,
                (x, n) -> x.put(told(x, x.put(x.global(FAMILY), x.variable(0))), x.sort(0)), NONE);
        end("told for the family", 1, (x, n) -> x.put(told(x, x.global(FAMILY)), x.variable(0), x.sort(0)), NONE);
        end("told for a variable", 1, (x, n) -> x.put(x.global(FAMILY), told(x, x.variable(0)), x.sort(0)), NONE);
        end("told for an index", 1, (x, n) -> x.put(x.global(FAMILY), x.variable(0), told(x, x.variable(0))), 0);
        end("told for an all's type", 1, (x, n) -> x.all(0, told(x, x.variable(0)), family(x, 1, 1, 2)), 0);
        end("lifted for an all", 2,
                (x, n) -> x.lift(x.all(0, x.sort(0), x.put(x.global(FAMILY), x.variable(1), x.sort(0))), 1), NONE);
        end("lifted for the family and its terms", 2, (x, n) -> x.lift(family(x, 1, 1, 1), 1), NONE);
        end("lifted for the family and a term", 2,
                (x, n) -> x.put(x.lift(x.put(x.global(FAMILY), x.variable(0)), 1), x.sort(0)), NONE);
        end("lifted for a variable", 2, (x, n) -> x.put(x.global(FAMILY), x.lift(x.variable(0), 1), x.sort(0)), NONE);
        end("lifted for an index", 2, (x, n) -> x.put(x.global(FAMILY), x.variable(1), x.lift(x.variable(0), 1)), 0);
        end("lifted by 0 it is itself", 1, (x, n) -> x.lift(family(x, 1, 1, 1), 0), 0);
        end("closed and lifted it is itself", 1,
                (x, n) -> x.put(x.lift(x.global(FAMILY), 1), x.variable(0), x.sort(0)), 0);
        end("loose in what an index was told", 1,
                (x, n) -> x.put(x.global(FAMILY), x.variable(0), x.join(9, x.variable(1), x.sort(0))), NONE);
    }

    /** An argument behind a parameter and a sort, so that it lies under two alls; is it recursive? */
    private static void argument(String what, Under under, int due) {
        Probe x = withFamily(1, 1);
        int type = x.all(2, under.make(x, 2), family(x, 1, 1, 3));
        Due.is(what, x.constructor(CONSTRUCTOR, alls(x, 2, type)), due);
        int made = x.put(x.global(CONSTRUCTOR), x.sort(1), x.sort(2), x.variable(3));
        int t = x.put(x.rec(FAMILY, 0), x.sort(4), x.sort(5), x.variable(6), x.variable(7), x.sort(8), made);
        Due.is(what + ": cost", x.head(t, 3000), 6 + 3 + 1 + 2 + due);
        Due.is(what + ": its part C", x.found(1), 6);
        Due.is(what + ": put to its arguments and hypotheses", x.found(2), 2 + due);
    }

    private static int ofTwo(Probe x, int parameter, int index) {
        return x.put(x.global(FAMILY), parameter, index);
    }

    private static void recursiveArguments() {
        argument("no alls", (x, n) -> family(x, 1, 1, n), 1);
        argument("one all", (x, n) -> alls(x, 1, family(x, 1, 1, n + 1)), 1);
        argument("two alls", (x, n) -> alls(x, 2, family(x, 1, 1, n + 2)), 1);
        argument("nine alls", (x, n) -> alls(x, 9, family(x, 1, 1, n + 9)), 1);
        argument("the family in its index", (x, n) -> ofTwo(x, x.variable(1), family(x, 1, 1, n)), 1);
        argument("the family left of it", (x, n) -> x.all(0, family(x, 1, 1, n), family(x, 1, 1, n + 1)), 1);
        argument("an index from an all", (x, n) -> alls(x, 1, ofTwo(x, x.variable(2), x.variable(0))), 1);
        argument("a told index", (x, n) -> ofTwo(x, x.variable(1), told(x, x.sort(0))), 1);
        argument("a lifted index", (x, n) -> ofTwo(x, x.variable(1), x.lift(x.variable(0), 1)), 1);
        argument("a told type of an all", (x, n) -> x.all(0, told(x, x.sort(0)), family(x, 1, 1, n + 1)), 1);
    }

    private static void otherArguments() {
        argument("a sort", (x, n) -> x.sort(0), 0);
        argument("the parameter", (x, n) -> x.variable(1), 0);
        argument("the family alone", (x, n) -> x.global(FAMILY), 0);
        argument("a term too few", (x, n) -> x.put(x.global(FAMILY), x.variable(1)), 0);
        argument("a term too many", (x, n) -> x.put(family(x, 1, 1, n), x.sort(0)), 0);
        argument("the family left of a sort", (x, n) -> x.all(0, family(x, 1, 1, n), x.sort(0)), 0);
        argument("the family as a term", (x, n) -> x.put(x.sort(0), family(x, 1, 1, n)), 0);
        argument("an argument for the parameter", (x, n) -> ofTwo(x, x.variable(0), x.sort(0)), 0);
        argument("a sort for the parameter", (x, n) -> ofTwo(x, x.sort(0), x.variable(1)), 0);
        argument("a variable of its own alls for the parameter",
                (x, n) -> alls(x, 1, ofTwo(x, x.variable(0), x.sort(0))), 0);
        argument("the parameter as if there were no all", (x, n) -> alls(x, 1, ofTwo(x, x.variable(1), x.sort(0))), 0);
        argument("a constructor", (x, n) -> x.put(x.global(CONSTRUCTOR), x.variable(1), x.sort(0)), 0);
        argument("another family", (x, n) -> x.put(x.global(x.family(1, 1, 0)), x.variable(1), x.sort(0)), 0);
        argument("a rec", (x, n) -> x.put(x.rec(FAMILY, 0), x.variable(1), x.sort(0)), 0);
        argument("a def of it", (x, n) -> x.put(x.global(x.def(x.global(FAMILY))), x.variable(1), x.sort(0)), 0);
        argument("a fun of it", (x, n) -> x.fun(0, x.sort(0), family(x, 1, 1, n + 1)), 0);
        argument("a let of it", (x, n) -> x.let(0, x.sort(0), family(x, 1, 1, n + 1)), 0);
        argument("a fun under an all", (x, n) -> alls(x, 1, x.fun(0, x.sort(0), family(x, 1, 1, n + 2))), 0);
        argument("told", (x, n) -> told(x, family(x, 1, 1, n)), 0);
        argument("told under an all", (x, n) -> alls(x, 1, told(x, family(x, 1, 1, n + 1))), 0);
        argument("told with an all", (x, n) -> told(x, alls(x, 1, family(x, 1, 1, n + 1))), 0);
        argument("the family told", (x, n) -> x.put(told(x, x.global(FAMILY)), x.variable(1), x.sort(0)), 0);
        argument("the family and a term told",
                (x, n) -> x.put(told(x, x.put(x.global(FAMILY), x.variable(1))), x.sort(0)), 0);
        argument("the parameter told", (x, n) -> ofTwo(x, told(x, x.variable(1)), x.sort(0)), 0);
        argument("lifted", (x, n) -> x.lift(family(x, 1, 1, 1), 1), 0);
        argument("lifted under an all", (x, n) -> alls(x, 1, x.lift(family(x, 1, 1, n), 1)), 0);
        argument("the parameter lifted", (x, n) -> ofTwo(x, x.lift(x.variable(0), 1), x.sort(0)), 0);
    }

    private static void parametersAreNoArguments() {
        Probe x = withFamily(1, 0);
        int d = x.global(FAMILY);
        int type = x.all(0, x.put(d, x.sort(0)), x.put(d, x.variable(0)));
        Due.is("a parameter of the family's type", x.constructor(CONSTRUCTOR, type), 0);
        int made = x.put(x.global(CONSTRUCTOR), x.sort(1));
        int t = x.put(x.rec(FAMILY, 0), x.sort(1), x.sort(2), x.variable(3), x.variable(4), made);
        Due.is("it brings nothing", x.head(t, 100), 5 + 1 + 1);
        Due.is("its part C", x.found(1), 3);
        Due.is("put to nothing", x.found(2), 0);
    }

    private static void toldOnce() {
        Probe x = withFamily(0, 0);
        int d = x.global(FAMILY);
        int arrow = x.all(0, d, d);
        Due.is("a fault", x.constructor(CONSTRUCTOR, x.sort(0)), NONE);
        Due.is("a fault again", x.constructor(CONSTRUCTOR, x.put(d, d)), NONE);
        Due.is("the family itself", x.constructor(CONSTRUCTOR, d), 0);
        Due.is("told before", x.constructor(CONSTRUCTOR, d), NONE);
        Due.is("told before, otherwise", x.constructor(CONSTRUCTOR, arrow), NONE);
        Due.is("the other one", x.constructor(2, arrow), 1);
        Due.is("told before", x.constructor(2, arrow), NONE);
        Due.is("told before, otherwise", x.constructor(2, d), NONE);
        int t = x.put(x.rec(FAMILY, 0), x.sort(0), x.variable(1), x.variable(2), x.put(x.global(2), x.variable(3)));
        Due.is("what was told first holds", x.head(t, 100), 4 + 1 + 1 + 2);
        Due.is("its part C", x.found(1), 2);
        Due.is("put to both", x.found(2), 2);
    }

    public static void main(String[] args) {
        numbersOfParametersAndIndices();
        fourParametersInOrder();
        whatIsNoType();
        asItStands();
        recursiveArguments();
        otherArguments();
        parametersAreNoArguments();
        toldOnce();
        Due.end();
    }
}

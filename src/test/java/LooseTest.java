/**
 * What 'Terms' says of variables and binders, and of lifted and told terms: what is loose and what
 * is bound, at the edge between both, as def(), lift(), head() and normal() see it.
 */
public final class LooseTest {
    private static final int NONE = Probe.NONE;

    private LooseTest() {
    }

    private interface Make {
        int on(Probe x);
    }

    /** A closed term may be a def's value, and lifted it is itself. */
    private static void closed(String what, Make make) {
        Probe x = new Probe();
        int t = make.on(x);
        Due.is(what + ": a def's value", x.def(t), 0);
        int lifted = x.lift(t, 1);
        Due.is(what + ": lifted it is a term more", lifted, x.terms() - 1);
        Due.is(what + ": and has its kind", x.part(lifted, 0, 0), x.part(t, 0, 0));
    }

    /** A term with loose variables is no def's value, and is lifted. */
    private static void loose(String what, Make make) {
        Probe x = new Probe();
        int t = make.on(x);
        Due.is(what + ": no def's value", x.def(t), NONE);
        int lifted = x.lift(t, 1);
        Due.is(what + ": it is lifted", x.part(lifted, 0, 0), 8);
        Due.is(what + ": what is lifted is loose", x.def(lifted), NONE);
    }

    private static void binders() {
        for (int kind = 5; kind <= 7; kind++) {
            int of = kind;
            String what = "kind " + kind;
            closed(what + ", its own variable", x -> x.binder(of, 1, x.sort(0), x.variable(0)));
            loose(what + ", the next variable", x -> x.binder(of, 1, x.sort(0), x.variable(1)));
            loose(what + ", its first part is not under it", x -> x.binder(of, 1, x.variable(0), x.sort(0)));
            closed(what + ", two of it", x -> x.binder(of, 1, x.sort(0), x.binder(of, 2, x.variable(0), x.variable(1))));
            loose(what + ", two of it", x -> x.binder(of, 1, x.sort(0), x.binder(of, 2, x.sort(0), x.variable(2))));
            loose(what + ", two of it, the first part of the inner",
                    x -> x.binder(of, 1, x.sort(0), x.binder(of, 2, x.variable(1), x.variable(0))));
            loose(what + ", one bound and one loose",
                    x -> x.binder(of, 1, x.sort(0), x.put(x.variable(0), x.variable(1))));
            loose(what + ", its own variable, lifted out", x -> x.binder(of, 1, x.sort(0), x.lift(x.variable(0), 1)));
        }
    }

    private static void leavesAndJoins() {
        loose("a variable", x -> x.variable(0));
        loose("the last variable", x -> x.variable(199));
        closed("a sort", x -> x.sort(199));
        closed("an application of sorts", x -> x.put(x.sort(0), x.sort(1)));
        loose("the first part of an application", x -> x.put(x.variable(0), x.sort(0)));
        loose("the second part of an application", x -> x.put(x.sort(0), x.variable(0)));
        closed("a told one of sorts", x -> x.join(9, x.sort(0), x.sort(1)));
        loose("the type that is told", x -> x.join(9, x.variable(0), x.sort(0)));
        loose("the value that is told", x -> x.join(9, x.sort(0), x.variable(0)));
        closed("a told one under a binder", x -> x.fun(1, x.sort(0), x.join(9, x.variable(0), x.sort(0))));
        loose("a told one under a binder", x -> x.fun(1, x.sort(0), x.join(9, x.variable(1), x.sort(0))));
    }

    private static int bound(Probe x, int binders, int t) {
        int made = t;
        for (int n = 0; n < binders; n++) {
            made = x.binder(5 + n % 3, n % 100, x.sort(0), made);
        }
        return made;
    }

    private static void manyBinders() {
        closed("variable 119 under 120 binders", x -> bound(x, 120, x.variable(119)));
        loose("variable 120 under 120 binders", x -> bound(x, 120, x.variable(120)));
        loose("variable 199 under 120 binders", x -> bound(x, 120, x.variable(199)));
        closed("variable 0 lifted by 119 under 120 binders", x -> bound(x, 120, x.lift(x.variable(0), 119)));
        loose("variable 0 lifted by 120 under 120 binders", x -> bound(x, 120, x.lift(x.variable(0), 120)));
        loose("variable 0 lifted by 60 and 60 under 120 binders",
                x -> bound(x, 120, x.lift(x.lift(x.variable(0), 60), 60)));
    }

    private static int lifts(Probe x, int t, int times) {
        int made = t;
        for (int n = 0; n < times; n++) {
            made = x.lift(made, 199);
        }
        return made;
    }

    private static void liftedByMany() {
        Probe x = new Probe();
        int t = lifts(x, x.variable(199), 300);
        Due.is("it is lifted once", x.part(t, 0, 0), 8);
        Due.is("by all of them", x.part(t, 0, 1), 300 * 199);
        Due.is("its part is not lifted", x.part(t, 1, 0), 0);
        Due.is("and is as it was", x.part(t, 1, 1), 199);
        Due.is("it has no more parts", x.part(t, 2, 0), NONE);
        Due.is("head", x.head(t, 1), 0);
        Due.is("as a loose variable", x.found(1), 300 * 199 + 199);
        int normal = x.normal(x.fun(1, t, t), 3, 3);
        Due.is("under a binder as it stands", x.part(normal, 2, 1), 300 * 199 + 199);
        Due.is("beside it as it stands", x.part(normal, 1, 1), 300 * 199 + 199);
        int again = x.lift(x.normal(t, 1, 1), 199);
        Due.is("a normal form is lifted like others", x.part(again, 0, 1), 199);
        Due.is("head", x.head(again, 1), 0);
        Due.is("as a loose variable", x.found(1), 301 * 199 + 199);
    }

    private static void liftedOverBinders() {
        Probe x = new Probe();
        int s = x.sort(0);
        int v0 = x.variable(0);
        int v1 = x.variable(1);
        int v2 = x.variable(2);
        int t = x.fun(1, v0, x.fun(2, v1, x.put(v0, v1, v2)));
        int[][] due = {{5, 1}, {0, 4}, {5, 2}, {0, 5}, {4, 0}, {4, 0}, {0, 0}, {0, 1}, {0, 6}};
        int normal = x.normal(x.lift(t, 4), 3000, 9);
        for (int i = 0; i < due.length; i++) {
            Due.is("kind of part " + i, x.part(normal, i, 0), due[i][0]);
            Due.is("number of part " + i, x.part(normal, i, 1), due[i][1]);
        }
        int within = x.let(1, s, x.let(2, v0, x.lift(x.put(v0, v1), 1)));
        int made = x.normal(within, 3000, 3);
        Due.is("lifted by 1 under two lets: the outer one", x.part(made, 1, 0), 2);
        Due.is("and what is loose", x.part(made, 2, 1), 0);
        int beyond = x.let(1, s, x.let(2, s, x.lift(x.put(v0, v1), 2)));
        int out = x.normal(beyond, 3000, 3);
        Due.is("lifted by 2 under two lets: loose 0", x.part(out, 1, 1), 0);
        Due.is("lifted by 2 under two lets: loose 1", x.part(out, 2, 1), 1);
        int three = x.let(1, s, x.let(2, s, x.lift(x.put(v0, v1), 3)));
        int far = x.normal(three, 3000, 3);
        Due.is("lifted by 3 under two lets: loose 1", x.part(far, 1, 1), 1);
        Due.is("lifted by 3 under two lets: loose 2", x.part(far, 2, 1), 2);
    }

    private static void puttingTerms() {
        Probe x = new Probe();
        int s = x.sort(3);
        int v0 = x.variable(0);
        int v1 = x.variable(1);
        int v2 = x.variable(2);
        int t = x.put(x.fun(1, s, x.fun(2, v0, x.put(v0, v1, v2))), x.put(v0, v1));
        int[][] due = {{5, 2}, {4, 0}, {0, 0}, {0, 1}, {4, 0}, {4, 0}, {0, 0}, {4, 0}, {0, 1}, {0, 2}, {0, 1}};
        int normal = x.normal(t, 3000, due.length);
        for (int i = 0; i < due.length; i++) {
            Due.is("kind of part " + i, x.part(normal, i, 0), due[i][0]);
            Due.is("number of part " + i, x.part(normal, i, 1), due[i][1]);
        }
        int last = x.put(x.fun(1, s, x.variable(199)), s);
        Due.is("a loose variable is one less without its binder", x.head(last, 3000), 2);
        Due.is("variable 199", x.found(1), 198);
        Due.is("variable 1", x.head(x.put(x.fun(1, s, v1), s), 3000), 2);
        Due.is("variable 1", x.found(1), 0);
        Due.is("variable 0", x.head(x.put(x.fun(1, s, v0), s), 3000), 2);
        Due.is("variable 0", x.found(0), 2);
    }

    private static void normalForm(String what, Make make, int nodes, boolean isLoose) {
        Probe x = new Probe();
        Due.is("one that came before", x.normal(x.variable(199), 1, 1), 1);
        int normal = x.normal(make.on(x), 3000, nodes);
        Due.is(what + ": a def's value", x.def(normal), isLoose ? NONE : 0);
        Due.is(what + ": lifted", x.part(x.lift(normal, 1), 0, 0), isLoose ? 8 : x.part(normal, 0, 0));
    }

    /** Variables may be gone from a normal form, and then it is closed. */
    private static void normalForms() {
        normalForm("a variable", x -> x.variable(0), 1, true);
        normalForm("a sort", x -> x.sort(0), 1, false);
        normalForm("a fun's own variable", x -> x.fun(1, x.sort(0), x.variable(0)), 3, false);
        normalForm("a fun's next variable", x -> x.fun(1, x.sort(0), x.variable(1)), 3, true);
        normalForm("a fun's first part", x -> x.fun(1, x.variable(0), x.sort(0)), 3, true);
        normalForm("two alls", x -> x.all(1, x.sort(0), x.all(2, x.variable(0), x.variable(1))), 5, false);
        normalForm("a told type", x -> x.join(9, x.variable(0), x.sort(0)), 1, false);
        normalForm("a value that is not used", x -> x.let(1, x.variable(0), x.sort(0)), 1, false);
        normalForm("a value that is used", x -> x.let(1, x.variable(0), x.variable(0)), 1, true);
        normalForm("a term that is not used", x -> x.put(x.fun(1, x.sort(0), x.sort(1)), x.variable(0)), 1, false);
        normalForm("a term that is used", x -> x.put(x.fun(1, x.sort(0), x.variable(0)), x.variable(0)), 1, true);
        normalForm("the first of two", x -> x.put(x.variable(5), x.sort(0)), 3, true);
        normalForm("the second of two", x -> x.put(x.sort(0), x.variable(5)), 3, true);
    }

    private static void normalFormsUnderBinders() {
        for (int i = 0; i <= 2; i++) {
            Probe x = new Probe();
            int s = x.sort(0);
            int normal = x.normal(x.put(x.variable(i), x.variable(0)), 3000, 3);
            int one = x.fun(1, s, normal);
            int two = x.fun(2, s, one);
            Due.is("variable " + i + " of a normal form under no fun", x.def(normal), NONE);
            Due.is("variable " + i + " of a normal form under one fun", x.def(one), i < 1 ? 0 : NONE);
            Due.is("variable " + i + " of a normal form under two funs", x.def(two), i < 1 ? 1 : i < 2 ? 0 : NONE);
        }
    }

    public static void main(String[] args) {
        binders();
        leavesAndJoins();
        manyBinders();
        liftedByMany();
        liftedOverBinders();
        puttingTerms();
        normalForms();
        normalFormsUnderBinders();
        Due.end();
    }
}

/** The machine and the model side by side: each call goes to both, and the answers must agree. */
final class Pair {
    static final class Ended extends RuntimeException {
        private static final long serialVersionUID = 1;
    }

    final ClosureMachine machine = new ClosureMachine();
    final Model model = new Model();
    private final String run;
    private final int most;
    int calls = 0;

    Pair(String run, int most) {
        this.run = run;
        this.most = most;
    }

    private void next() {
        if (++calls > most) {
            throw new Ended();
        }
    }

    private int same(String call, int got, int want) {
        Due.is(run + ", call " + calls + ": " + call, got, want);
        if (got != want) {
            throw new Ended();
        }
        return got;
    }

    int leaf(int kind, int a, int b) {
        next();
        return same("leaf(" + kind + ", " + a + ", " + b + ")", machine.leaf(kind, a, b), model.leaf(kind, a, b));
    }

    int join(int kind, int a, int b) {
        next();
        return same("join(" + kind + ", " + a + ", " + b + ")", machine.join(kind, a, b), model.join(kind, a, b));
    }

    int binder(int kind, int name, int a, int b) {
        next();
        return same("binder(" + kind + ", " + name + ", " + a + ", " + b + ")", machine.binder(kind, name, a, b),
                model.binder(kind, name, a, b));
    }

    int lift(int t, int k) {
        next();
        return same("lift(" + t + ", " + k + ")", machine.lift(t, k), model.lift(t, k));
    }

    int axiom() {
        next();
        return same("axiom()", machine.axiom(), model.axiom());
    }

    int def(int t) {
        next();
        return same("def(" + t + ")", machine.def(t), model.def(t));
    }

    int family(int parameters, int indices, int constructors) {
        next();
        return same("family(" + parameters + ", " + indices + ", " + constructors + ")",
                machine.family(parameters, indices, constructors), model.family(parameters, indices, constructors));
    }

    int constructor(int g, int t) {
        next();
        return same("constructor(" + g + ", " + t + ")", machine.constructor(g, t), model.constructor(g, t));
    }

    int head(int t, int fuel) {
        next();
        return same("head(" + t + ", " + fuel + ")", machine.head(t, fuel), model.head(t, fuel));
    }

    int found(int what) {
        next();
        return same("found(" + what + ")", machine.found(what), model.found(what));
    }

    int normal(int t, int fuel) {
        next();
        return same("normal(" + t + ", " + fuel + ")", machine.normal(t, fuel), model.normal(t, fuel));
    }

    int cost() {
        next();
        return same("cost()", machine.cost(), model.cost());
    }

    int terms() {
        next();
        return same("terms()", machine.terms(), model.terms());
    }

    int part(int t, int i, int what) {
        next();
        return same("part(" + t + ", " + i + ", " + what + ")", machine.part(t, i, what), model.part(t, i, what));
    }

    /** Every part of a term, not counted as calls. */
    void sameTerm(int t) {
        boolean there = true;
        for (int i = 0; there; i++) {
            for (int what = 0; what <= 2; what++) {
                there = same("part(" + t + ", " + i + ", " + what + ")", machine.part(t, i, what),
                        model.part(t, i, what)) != Model.NONE || what != 0 && there;
            }
        }
    }
}

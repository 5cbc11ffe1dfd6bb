import java.util.ArrayList;
import java.util.List;

/**
 * The document once more, in its own words and without any closures: variables are substituted,
 * lifted terms are shifted, and what a head costs is counted where the document counts it. It is
 * slow, and gives up (with GaveUp) where trees grow too big; tests compare the machine with it.
 */
final class Model {
    static final int NONE = -1;
    static final int OUT = -2;
    private static final long MOST_WORK = 400_000;

    static final class GaveUp extends RuntimeException {
        private static final long serialVersionUID = 1;
    }

    private static final class FuelGone extends RuntimeException {
        private static final long serialVersionUID = 1;
    }

    private static final class Term {
        final int kind;
        final int number;
        final int sort;
        final Term a;
        final Term b;
        boolean lastReduced = false;

        Term(int kind, int number, int sort, Term a, Term b) {
            this.kind = kind;
            this.number = number;
            this.sort = sort;
            this.a = a;
            this.b = b;
        }
    }

    private static final class Known {
        char kind;
        Term value;
        int parameters;
        int indices;
        int constructors;
        int family;
        int place;
        Term type;
        int arguments;
    }

    private final List<Term> terms = new ArrayList<>();
    private final List<Known> globals = new ArrayList<>();
    private long nodesInAll = 0;
    private int lastCost = NONE;
    private final int[] found = {NONE, NONE, NONE};
    private long spent;
    private long fuel;
    private long work;

    private static Term app(Term f, Term a) {
        return new Term(4, 0, 0, f, a);
    }

    private static Term variable(int i) {
        return new Term(0, i, 0, null, null);
    }

    private boolean has(int t) {
        return t >= 0 && t < terms.size();
    }

    private static long nodes(Term t) {
        return switch (t.kind) {
            case 0, 1, 2, 3 -> 1;
            case 8 -> nodes(t.a);
            case 9 -> nodes(t.a) + nodes(t.b);
            default -> 1 + nodes(t.a) + nodes(t.b);
        };
    }

    private static int looseBound(Term t) {
        return switch (t.kind) {
            case 0 -> t.number + 1;
            case 1, 2, 3 -> 0;
            case 8 -> looseBound(t.a) + t.number;
            case 4, 9 -> Math.max(looseBound(t.a), looseBound(t.b));
            default -> Math.max(looseBound(t.a), looseBound(t.b) - 1);
        };
    }

    private int tell(Term t) {
        long size = nodes(t);
        if (terms.size() >= 3000 || size > 2000 || nodesInAll + size > 40000) {
            return NONE;
        }
        nodesInAll += size;
        terms.add(t);
        return terms.size() - 1;
    }

    int leaf(int kind, int a, int b) {
        boolean number = a >= 0 && a <= 199;
        boolean global = a >= 0 && a < globals.size();
        if (kind == 0 || kind == 2) {
            return number && b == 0 ? tell(new Term(kind, a, 0, null, null)) : NONE;
        }
        if (kind == 1) {
            return global && b == 0 ? tell(new Term(1, a, 0, null, null)) : NONE;
        }
        if (kind == 3 && global && globals.get(a).kind == 'f' && b >= 0 && b <= 199) {
            return tell(new Term(3, a, b, null, null));
        }
        return NONE;
    }

    int join(int kind, int a, int b) {
        if ((kind != 4 && kind != 9) || !has(a) || !has(b)) {
            return NONE;
        }
        return tell(new Term(kind, 0, 0, terms.get(a), terms.get(b)));
    }

    int binder(int kind, int name, int a, int b) {
        if (kind < 5 || kind > 7 || name < -1 || name > 99 || !has(a) || !has(b)) {
            return NONE;
        }
        return tell(new Term(kind, name, 0, terms.get(a), terms.get(b)));
    }

    int lift(int t, int k) {
        if (!has(t) || k < 0 || k > 199) {
            return NONE;
        }
        Term part = terms.get(t);
        if (k == 0 || looseBound(part) == 0) {
            return tell(part);
        }
        if (part.kind == 8) {
            return tell(new Term(8, part.number + k, 0, part.a, null));
        }
        return tell(new Term(8, k, 0, part, null));
    }

    private int tellGlobal(char kind) {
        Known known = new Known();
        known.kind = kind;
        globals.add(known);
        return globals.size() - 1;
    }

    int axiom() {
        return globals.size() < 60 ? tellGlobal('a') : NONE;
    }

    int def(int t) {
        if (!has(t) || looseBound(terms.get(t)) > 0 || globals.size() >= 60) {
            return NONE;
        }
        int g = tellGlobal('d');
        work = 0;
        globals.get(g).value = meaning(terms.get(t));
        return g;
    }

    int family(int parameters, int indices, int constructors) {
        if (parameters < 0 || parameters > 4 || indices < 0 || indices > 4 || constructors < 0
                || constructors > 5 || globals.size() + 1 + constructors > 60) {
            return NONE;
        }
        int g = tellGlobal('f');
        Known family = globals.get(g);
        family.parameters = parameters;
        family.indices = indices;
        family.constructors = constructors;
        for (int place = 0; place < constructors; place++) {
            Known made = globals.get(tellGlobal('c'));
            made.family = g;
            made.place = place;
        }
        return g;
    }

    int constructor(int g, int t) {
        if (g < 0 || g >= globals.size() || globals.get(g).kind != 'c' || globals.get(g).type != null || !has(t)
                || looseBound(terms.get(t)) > 0) {
            return NONE;
        }
        Known made = globals.get(g);
        Known family = globals.get(made.family);
        Term type = terms.get(t);
        int alls = 0;
        for (; type.kind == 6; type = type.b) {
            alls++;
        }
        if (alls < family.parameters || !isFamilyAt(type, made.family, alls)) {
            return NONE;
        }
        made.type = terms.get(t);
        made.arguments = alls - family.parameters;
        int recursive = 0;
        for (int n = 0; n < made.arguments; n++) {
            recursive += ysOf(made, n) >= 0 ? 1 : 0;
        }
        return recursive;
    }

    /** Arguments from the left to the right behind the head. */
    private static List<Term> spine(Term t) {
        List<Term> all = new ArrayList<>();
        Term f = t;
        for (; f.kind == 4; f = f.a) {
            all.add(0, f.b);
        }
        all.add(0, f);
        return all;
    }

    private boolean isFamilyAt(Term t, int g, int binders) {
        List<Term> all = spine(t);
        Known family = globals.get(g);
        if (all.get(0).kind != 1 || all.get(0).number != g
                || all.size() != 1 + family.parameters + family.indices) {
            return false;
        }
        for (int p = 0; p < family.parameters; p++) {
            Term there = all.get(1 + p);
            if (there.kind != 0 || there.number != binders - 1 - p) {
                return false;
            }
        }
        return true;
    }

    /** Y of a recursive argument, -1 for another one. */
    private int ysOf(Known made, int n) {
        int parameters = globals.get(made.family).parameters;
        Term type = made.type;
        for (int i = 0; i < parameters + n; i++) {
            type = type.b;
        }
        type = type.a;
        int ys = 0;
        for (; type.kind == 6; type = type.b) {
            ys++;
        }
        return isFamilyAt(type, made.family, parameters + n + ys) ? ys : -1;
    }

    private void work() {
        if (++work > MOST_WORK) {
            throw new GaveUp();
        }
    }

    /** The term without lifted and told ones. */
    private Term meaning(Term t) {
        work();
        return switch (t.kind) {
            case 0, 1, 2, 3 -> t;
            case 8 -> shift(meaning(t.a), t.number, 0);
            case 9 -> meaning(t.b);
            default -> new Term(t.kind, t.number, 0, meaning(t.a), meaning(t.b));
        };
    }

    private Term shift(Term t, int by, int from) {
        work();
        return switch (t.kind) {
            case 0 -> t.number >= from ? variable(t.number + by) : t;
            case 1, 2, 3 -> t;
            case 4 -> app(shift(t.a, by, from), shift(t.b, by, from));
            default -> new Term(t.kind, t.number, 0, shift(t.a, by, from), shift(t.b, by, from + 1));
        };
    }

    /** The second part of a binder with a term for its variable. */
    private Term put(Term body, Term value) {
        return put(body, value, 0);
    }

    private Term put(Term t, Term value, int depth) {
        work();
        return switch (t.kind) {
            case 0 -> t.number < depth ? t : t.number > depth ? variable(t.number - 1) : shift(value, depth, 0);
            case 1, 2, 3 -> t;
            case 4 -> app(put(t.a, value, depth), put(t.b, value, depth));
            default -> new Term(t.kind, t.number, 0, put(t.a, value, depth), put(t.b, value, depth + 1));
        };
    }

    private void pay() {
        if (++spent > fuel) {
            throw new FuelGone();
        }
    }

    private Term reduce(Term t) {
        work();
        switch (t.kind) {
            case 1:
                if (globals.get(t.number).kind == 'd') {
                    pay();
                    return reduce(globals.get(t.number).value);
                }
                return t;
            case 7:
                pay();
                return reduce(put(t.b, t.a));
            case 4:
                pay();
                Term f = reduce(t.a);
                if (f.kind == 5) {
                    pay();
                    return reduce(put(f.b, t.b));
                }
                return wantsLast(f) ? eliminate(f, t.b) : app(f, t.b);
            default:
                return t;
        }
    }

    private boolean wantsLast(Term f) {
        List<Term> all = spine(f);
        if (all.get(0).kind != 3) {
            return false;
        }
        Known family = globals.get(all.get(0).number);
        return all.size() - 1 == family.parameters + 1 + family.constructors + family.indices;
    }

    private Term eliminate(Term f, Term a) {
        Term last = reduce(a);
        List<Term> parts = spine(f);
        List<Term> made = spine(last);
        int g = parts.get(0).number;
        Known family = globals.get(g);
        Known c = made.get(0).kind == 1 ? globals.get(made.get(0).number) : null;
        if (c == null || c.kind != 'c' || c.family != g || c.type == null
                || made.size() - 1 != family.parameters + c.arguments) {
            Term stuck = app(f, last);
            stuck.lastReduced = true;
            return stuck;
        }
        pay();
        Term comes = parts.get(1 + family.parameters + 1 + c.place);
        for (int n = 0; n < c.arguments; n++) {
            comes = app(comes, made.get(1 + family.parameters + n));
        }
        Term type = meaning(c.type);
        for (int p = 0; p < family.parameters; p++) {
            type = put(type.b, parts.get(1 + p));
        }
        for (int n = 0; n < c.arguments; n++) {
            Term argument = made.get(1 + family.parameters + n);
            int ys = ysOf(c, n);
            if (ys >= 0) {
                comes = app(comes, hypothesis(parts, type.a, argument, ys, 0));
            }
            type = put(type.b, argument);
        }
        return reduce(comes);
    }

    private Term hypothesis(List<Term> parts, Term type, Term argument, int ys, int passed) {
        if (passed < ys) {
            return new Term(5, type.number, 0, type.a, hypothesis(parts, type.b, argument, ys, passed + 1));
        }
        Known family = globals.get(parts.get(0).number);
        Term t = parts.get(0);
        for (int i = 0; i < family.parameters + 1 + family.constructors; i++) {
            t = app(t, shift(parts.get(1 + i), ys, 0));
        }
        List<Term> result = spine(type);
        for (int i = 0; i < family.indices; i++) {
            t = app(t, result.get(1 + family.parameters + i));
        }
        Term last = shift(argument, ys, 0);
        for (int y = ys - 1; y >= 0; y--) {
            last = app(last, variable(y));
        }
        return app(t, last);
    }

    private Term normalOf(Term t) {
        return normalParts(reduce(t));
    }

    private Term normalParts(Term t) {
        pay();
        if (t.kind < 4) {
            return t;
        }
        if (t.kind == 4) {
            Term f = normalParts(t.a);
            return app(f, t.lastReduced ? normalParts(t.b) : normalOf(t.b));
        }
        return new Term(t.kind, t.number, 0, normalOf(t.a), normalOf(t.b));
    }

    int head(int t, int fuelOfCall) {
        if (!has(t) || fuelOfCall < 1 || fuelOfCall > 3000) {
            return NONE;
        }
        start(fuelOfCall);
        try {
            List<Term> all = spine(reduce(meaning(terms.get(t))));
            found[0] = all.get(0).kind;
            found[1] = all.get(0).number;
            found[2] = all.size() - 1;
            return (int) spent;
        } catch (FuelGone gone) {
            return OUT;
        }
    }

    private void start(int fuelOfCall) {
        spent = 0;
        work = 0;
        fuel = fuelOfCall;
    }

    int found(int what) {
        return what >= 0 && what <= 2 ? found[what] : NONE;
    }

    int normal(int t, int fuelOfCall) {
        if (!has(t) || fuelOfCall < 1 || fuelOfCall > 3000) {
            return NONE;
        }
        start(fuelOfCall);
        try {
            int made = tell(normalOf(meaning(terms.get(t))));
            lastCost = made == NONE ? lastCost : (int) spent;
            return made;
        } catch (FuelGone gone) {
            return OUT;
        }
    }

    int cost() {
        return lastCost;
    }

    int terms() {
        return terms.size();
    }

    private static void list(Term t, List<Term> into) {
        into.add(t);
        if (t.a != null) {
            list(t.a, into);
        }
        if (t.b != null) {
            list(t.b, into);
        }
    }

    int part(int t, int i, int what) {
        if (!has(t) || what < 0 || what > 2) {
            return NONE;
        }
        List<Term> parts = new ArrayList<>();
        list(terms.get(t), parts);
        if (i < 0 || i >= parts.size()) {
            return NONE;
        }
        Term part = parts.get(i);
        return what == 0 ? part.kind : what == 1 ? part.number : part.sort;
    }
}

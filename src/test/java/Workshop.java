/**
 * A machine with something of everything in it (a head was told, a normal form came out), and ways
 * to see that a call that was refused left all of it as it was.
 */
final class Workshop {
    static final int AXIOM = 0;
    static final int DEF = 1;
    static final int FAMILY = 2;
    static final int TOLD_CONSTRUCTOR = 3;
    static final int OPEN_CONSTRUCTOR = 4;
    static final int GLOBALS = 5;

    static final int SORT = 0;
    static final int LOOSE = 1;
    static final int FUN = 2;
    static final int TYPE = 6;
    static final int LIFTED = 7;
    static final int REDEX = 8;
    static final int LOOP = 12;
    static final int TERMS = 13;

    private Workshop() {
    }

    interface Call {
        int on(Probe x);
    }

    private interface Look {
        String at(Probe x);
    }

    static Probe make() {
        Probe x = new Probe();
        x.axiom();
        x.sort(5);
        x.def(SORT);
        x.family(1, 1, 2);
        x.variable(0);
        x.fun(7, SORT, LOOSE);
        x.put(x.global(FAMILY), LOOSE, SORT);
        x.all(8, SORT, TYPE - 1);
        x.constructor(TOLD_CONSTRUCTOR, TYPE);
        x.lift(LOOSE, 2);
        x.put(FUN, SORT);
        x.head(REDEX, 100);
        x.normal(REDEX, 100, 1);
        int self = x.fun(9, SORT, x.put(LOOSE, LOOSE));
        x.put(self, self);
        return x;
    }

    private static String terms(Probe x) {
        StringBuilder all = new StringBuilder();
        int terms = x.terms();
        all.append(terms).append(" terms, cost ").append(x.cost());
        for (int what = 0; what <= 2; what++) {
            all.append(", found ").append(x.found(what));
        }
        for (int t = 0; t < terms; t++) {
            all.append("; ").append(t).append(':');
            int kind = x.part(t, 0, 0);
            for (int i = 1; kind >= 0; i++) {
                all.append(' ').append(kind).append('/').append(x.part(t, i - 1, 1));
                kind = x.part(t, i, 0);
            }
        }
        return all.toString();
    }

    private static String globals(Probe x) {
        StringBuilder all = new StringBuilder();
        int next = x.axiom();
        for (int g = 0; g <= next; g++) {
            int cost = x.head(x.global(g), 3000);
            all.append(g).append(": cost ").append(cost).append(", kind ").append(x.found(0));
            all.append(", number ").append(x.found(1));
            all.append(x.rec(g, 0) >= 0 ? ", a family" : ", no family");
            all.append(", told now: ").append(x.constructor(g, TYPE)).append("; ");
        }
        return all.toString();
    }

    /** Fails by itself when the room is not what the terms leave. */
    private static String room(Probe x) {
        x.leaveRoom(0);
        return "a leaf more: " + x.sort(0);
    }

    private static void same(String what, Call call, int due, Look look) {
        Probe called = make();
        Due.is(what, call.on(called), due);
        String after = look.at(called);
        String before = look.at(make());
        if (!after.equals(before)) {
            System.out.println(what + ": it was " + before + "\n   and is " + after);
        }
        Due.is(what + ": all is as it was", after.equals(before) ? 1 : 0, 1);
    }

    /** The call answers what is due, and nothing has changed. */
    static void changesNothing(String what, Call call, int due) {
        same(what, call, due, Workshop::terms);
        same(what, call, due, Workshop::globals);
        same(what, call, due, Workshop::room);
    }

    static void refused(String what, Call call) {
        changesNothing(what, call, Probe.NONE);
    }

    /** The call tells one term more. */
    static void tells(String what, Call call, int kind, int number) {
        Probe x = make();
        Due.is(what, call.on(x), TERMS);
        Due.is(what + ": terms", x.terms(), TERMS + 1);
        Due.is(what + ": kind", x.part(TERMS, 0, 0), kind);
        Due.is(what + ": number", x.part(TERMS, 0, 1), number);
    }
}

/**
 * Promises 1, 11, 13, 14 and 15: what is seen of a new object, of the head and the normal form that
 * came last, of how many terms there are, and of their parts, first, last and beyond.
 */
public final class SeenTest {
    private static final int NONE = Probe.NONE;
    private static final int OUT = Probe.OUT;
    private static final int MIN = Probe.MIN;
    private static final int MAX = Probe.MAX;

    private SeenTest() {
    }

    private static void found(Probe x, String what, int kind, int number, int terms) {
        Due.is(what + ": kind", x.found(0), kind);
        Due.is(what + ": number", x.found(1), number);
        Due.is(what + ": terms", x.found(2), terms);
        Due.is(what + ": found(-1)", x.found(-1), NONE);
        Due.is(what + ": found(3)", x.found(3), NONE);
        Due.is(what + ": found(MIN)", x.found(MIN), NONE);
        Due.is(what + ": found(MAX)", x.found(MAX), NONE);
    }

    private static void newObject() {
        Probe x = new Probe();
        Due.is("terms", x.terms(), 0);
        Due.is("cost", x.cost(), NONE);
        found(x, "nothing was reduced", NONE, NONE, NONE);
        for (int t : new int[] {MIN, -1, 0, 1, MAX}) {
            Due.is("part", x.part(t, 0, 0), NONE);
            Due.is("head", x.head(t, 100), NONE);
            Due.is("normal", x.normal(t, 100, 1), NONE);
            Due.is("join", x.join(4, t, t), NONE);
            Due.is("binder", x.binder(5, 0, t, t), NONE);
            Due.is("lift", x.lift(t, 0), NONE);
            Due.is("def", x.def(t), NONE);
            Due.is("constructor", x.constructor(0, t), NONE);
            Due.is("global", x.leaf(1, t, 0), NONE);
            Due.is("rec", x.leaf(3, t, 0), NONE);
        }
        Due.is("terms", x.terms(), 0);
        Due.is("the first term", x.sort(0), 0);
        Due.is("the first global", x.axiom(), 0);
    }

    private static void twoObjects() {
        Probe x = new Probe();
        Probe y = new Probe();
        x.axiom();
        x.family(0, 0, 0);
        int t = x.put(x.fun(0, x.sort(0), x.variable(0)), x.sort(1));
        x.head(t, 100);
        x.normal(t, 100, 1);
        Due.is("terms of the other", y.terms(), 0);
        Due.is("cost of the other", y.cost(), NONE);
        found(y, "head of the other", NONE, NONE, NONE);
        Due.is("globals of the other", y.axiom(), 0);
        Due.is("first term of the other", y.sort(5), 0);
        Due.is("and its own", x.part(0, 0, 1), 0);
    }

    private static void headThatWasToldLast() {
        Probe x = new Probe();
        int v = x.variable(9);
        int self = x.fun(4, v, x.put(x.variable(0), x.variable(0)));
        int loop = x.put(self, self);
        int three = x.put(v, v, v, v);
        found(x, "none yet", NONE, NONE, NONE);
        Due.is("OUT", x.head(loop, 10), OUT);
        found(x, "OUT is none", NONE, NONE, NONE);
        Due.is("normal", x.normal(v, 10, 1), x.terms() - 1);
        found(x, "a normal form is none", NONE, NONE, NONE);
        Due.is("head", x.head(three, 3), 3);
        found(x, "a variable put to three", 0, 9, 3);
        Due.is("OUT", x.head(three, 2), OUT);
        Due.is("no such term", x.head(-1, 2), NONE);
        Due.is("no such fuel", x.head(self, 0), NONE);
        Due.is("no such fuel", x.head(self, 3001), NONE);
        Due.is("normal", x.normal(self, 100, 5), x.terms() - 1);
        Due.is("normal, OUT", x.normal(loop, 100, 1), OUT);
        found(x, "the one that was told last", 0, 9, 3);
        Due.is("head", x.head(self, 1), 0);
        found(x, "a fun", 5, 4, 0);
    }

    private static void eachKindOfHead() {
        Probe x = new Probe();
        x.family(1, 0, 1);
        x.axiom();
        int s = x.sort(199);
        int[][] heads = {{x.variable(0), 0, 0}, {x.variable(199), 0, 199}, {x.global(0), 1, 0}, {x.global(1), 1, 1},
            {x.global(2), 1, 2}, {s, 2, 199}, {x.rec(0, 5), 3, 0}, {x.all(0, s, s), 6, 0}, {x.all(99, s, s), 6, 99},
            {x.all(NONE, s, s), 6, NONE}};
        for (int[] h : heads) {
            Due.is("kind " + h[1], x.head(h[0], 1), 0);
            found(x, "kind " + h[1], h[1], h[2], 0);
            Due.is("kind " + h[1], x.head(x.put(h[0], s), 1), 1);
            found(x, "put to one", h[1], h[2], 1);
            Due.is("kind " + h[1], x.head(x.put(h[0], s, h[0]), 2), 2);
            found(x, "put to two", h[1], h[2], 2);
        }
        for (int name : new int[] {NONE, 0, 99}) {
            Due.is("a fun", x.head(x.fun(name, s, s), 1), 0);
            found(x, "a fun", 5, name, 0);
        }
    }

    /** One term put to itself has 1, 3, 5 .. nodes, so that 199 times are all that there is room for. */
    private static void putToMany() {
        Probe x = new Probe();
        int v = x.variable(3);
        int t = v;
        for (int n = 1; n <= 199; n++) {
            t = x.put(t, v);
        }
        Due.is("the last one", t, 199);
        Due.is("one more", x.put(t, v), NONE);
        Due.is("its cost", x.head(t, 3000), 199);
        found(x, "put to many", 0, 3, 199);
        Due.is("with its cost", x.head(t, 199), 199);
        Due.is("with less", x.head(t, 198), OUT);
    }

    private static void costOfWhatCameOutLast() {
        Probe x = new Probe();
        int s = x.sort(0);
        int step = x.put(x.fun(1, s, x.variable(0)), s);
        int self = x.fun(4, s, x.put(x.variable(0), x.variable(0)));
        int loop = x.put(self, self);
        Due.is("none", x.cost(), NONE);
        x.head(step, 100);
        Due.is("a head is none", x.cost(), NONE);
        x.normal(loop, 3000, 1);
        x.normal(-1, 3000, 1);
        x.normal(s, 0, 1);
        Due.is("OUT or refused is none", x.cost(), NONE);
        x.normal(step, 3, 1);
        Due.is("that of the first", x.cost(), 3);
        x.normal(loop, 3000, 1);
        x.normal(step, 2, 1);
        x.normal(x.terms(), 5, 1);
        x.normal(s, 3001, 1);
        x.head(loop, 3000);
        x.head(s, 1);
        Due.is("it stays", x.cost(), 3);
        Due.is("and is asked as often as one likes", x.cost(), 3);
        x.normal(s, 3000, 1);
        Due.is("that of the next", x.cost(), 1);
    }

    private static void termsAreNumberedAsTheyCome() {
        Probe x = new Probe();
        x.axiom();
        x.family(0, 0, 1);
        Due.is("globals are no terms", x.terms(), 0);
        Due.is("a leaf", x.sort(0), 0);
        Due.is("an equal one", x.sort(0), 1);
        Due.is("an application", x.put(0, 0), 2);
        Due.is("an equal one", x.put(0, 0), 3);
        Due.is("a fun", x.fun(0, 0, 0), 4);
        Due.is("an equal one", x.fun(0, 0, 0), 5);
        Due.is("lifted by 0", x.lift(5, 0), 6);
        Due.is("a normal form", x.normal(0, 1, 1), 7);
        Due.is("the same one again", x.normal(0, 1, 1), 8);
        Due.is("a refused one", x.put(0, 9), NONE);
        Due.is("one that is OUT", x.normal(2, 1, 3), OUT);
        Due.is("the next one", x.variable(0), 9);
        Due.is("terms", x.terms(), 10);
        x.def(0);
        x.head(0, 1);
        x.found(0);
        x.cost();
        x.part(0, 0, 0);
        x.constructor(2, 0);
        Due.is("other calls tell no terms", x.terms(), 10);
        Due.is("terms() neither", x.terms(), 10);
    }

    private static void seen(Probe x, int t, int[]... parts) {
        for (int i = 0; i < parts.length; i++) {
            for (int what = 0; what <= 2; what++) {
                Due.is("part(" + t + ", " + i + ", " + what + ")", x.part(t, i, what), parts[i][what]);
            }
            Due.is("part(" + t + ", " + i + ", -1)", x.part(t, i, -1), NONE);
            Due.is("part(" + t + ", " + i + ", 3)", x.part(t, i, 3), NONE);
        }
        for (int i : new int[] {MIN, -1, parts.length, parts.length + 1, MAX}) {
            for (int what = -1; what <= 3; what++) {
                Due.is("part(" + t + ", " + i + ", " + what + ")", x.part(t, i, what), NONE);
            }
        }
    }

    private static void partsOfEachKind() {
        Probe x = new Probe();
        x.axiom();
        x.family(0, 0, 0);
        int[] v = {0, 7, 0};
        int[] s = {2, 199, 0};
        int[] r = {3, 1, 199};
        int[] g = {1, 1, 0};
        seen(x, x.variable(7), v);
        seen(x, x.sort(199), s);
        seen(x, x.rec(1, 199), r);
        seen(x, x.global(1), g);
        seen(x, x.put(0, 1), new int[] {4, 0, 0}, v, s);
        seen(x, x.join(9, 2, 3), new int[] {9, 0, 0}, r, g);
        seen(x, x.fun(99, 0, 1), new int[] {5, 99, 0}, v, s);
        seen(x, x.all(0, 1, 2), new int[] {6, 0, 0}, s, r);
        seen(x, x.let(NONE, 3, 0), new int[] {7, NONE, 0}, g, v);
        seen(x, x.lift(0, 199), new int[] {8, 199, 0}, v);
        seen(x, x.lift(9, 199), new int[] {8, 398, 0}, v);
        Due.is("calls", x.calls() <= Probe.MOST_CALLS ? 1 : 0, 1);
    }

    private static void partsInTheirOrder() {
        Probe x = new Probe();
        int v = x.variable(1);
        int s = x.sort(2);
        int lifted = x.lift(x.put(v, s), 3);
        int t = x.put(x.join(9, lifted, v), x.fun(4, s, lifted));
        int[] a = {4, 0, 0};
        int[] l = {8, 3, 0};
        int[] one = {0, 1, 0};
        int[] two = {2, 2, 0};
        seen(x, t, a, new int[] {9, 0, 0}, l, a, one, two, one, new int[] {5, 4, 0}, two, l, a, one, two);
    }

    /** Told terms have no nodes and lifted ones none of their own, but both are parts. */
    private static void morePartsThanNodes() {
        Probe x = new Probe();
        int t = x.lift(x.variable(0), 1);
        int parts = 2;
        for (int nodes = 2; nodes <= 1024; nodes *= 2) {
            t = x.lift(x.join(9, t, t), 1);
            parts = 2 + 2 * parts;
        }
        int more = x.join(9, t, t);
        Due.is("2048 nodes are too many", more, NONE);
        Due.is("its last part is a variable", x.part(t, parts - 1, 0), 0);
        Due.is("the one before it is lifted", x.part(t, parts - 2, 0), 8);
        Due.is("it has no more parts", x.part(t, parts, 0), NONE);
        Due.is("its first part is lifted", x.part(t, 0, 0), 8);
        Due.is("its second is told", x.part(t, 1, 0), 9);
        Due.is("the value that is told", x.part(t, 2 + (parts - 2) / 2, 0), 8);
        Due.is("head", x.head(t, 1), 0);
        Due.is("lifted by all that lies around it", x.found(1), 11);
    }

    /** A term of 2000 nodes: 1999 of applications (1023 and 511, 255, 127, 63 and 15 more) and a told one. */
    private static void partsOfTwoThousandNodes() {
        Probe x = new Probe();
        int[] trees = new int[10];
        trees[0] = x.sort(1);
        for (int n = 1; n < trees.length; n++) {
            trees[n] = x.put(trees[n - 1], trees[n - 1]);
        }
        int t = x.put(trees[9], trees[8], trees[7], trees[6], trees[5], trees[3]);
        int told = x.join(9, t, x.variable(5));
        Due.is("2000 nodes", told, x.terms() - 1);
        Due.is("part 0", x.part(told, 0, 0), 9);
        Due.is("part 1", x.part(told, 1, 0), 4);
        Due.is("part 1999", x.part(told, 1999, 0), 2);
        Due.is("part 2000, since told ones are parts, too", x.part(told, 2000, 0), 0);
        Due.is("its number", x.part(told, 2000, 1), 5);
        Due.is("part 2001", x.part(told, 2001, 0), NONE);
        Due.is("its type has no more than 1999", x.part(t, 1998, 0), 2);
        Due.is("its type has no more than 1999", x.part(t, 1999, 0), NONE);
        Due.is("a node more", x.fun(0, told, told), NONE);
    }

    /** Asked again and again, parts are the same. */
    private static void partsAgainAndAgain() {
        Probe x = new Probe();
        int t = x.sort(6);
        for (int n = 0; n < 100; n++) {
            t = x.put(t, x.variable(n));
        }
        for (int n = 0; n < 75; n++) {
            Due.is("the deepest part", x.part(t, 100, 1), 6);
            Due.is("the one beside it", x.part(t, 101, 1), 0);
            Due.is("the last part", x.part(t, 200, 1), 99);
            Due.is("beyond", x.part(t, 201, 1), NONE);
        }
    }

    public static void main(String[] args) {
        newObject();
        twoObjects();
        headThatWasToldLast();
        eachKindOfHead();
        putToMany();
        costOfWhatCameOutLast();
        termsAreNumberedAsTheyCome();
        partsOfEachKind();
        partsInTheirOrder();
        morePartsThanNodes();
        partsOfTwoThousandNodes();
        partsAgainAndAgain();
        Due.end();
    }
}

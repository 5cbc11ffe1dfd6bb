/**
 * Promises 2 to 15: each thing that a call may be refused for has a test of its own, which asks the
 * last that is taken and the first that is not, and that a refused call changed nothing.
 */
public final class RefusedTest {
    private static final int NONE = Probe.NONE;
    private static final int OUT = Probe.OUT;
    private static final int MIN = Probe.MIN;
    private static final int MAX = Probe.MAX;
    private static final int[] NO_TERMS = {MIN, -2, -1, Workshop.TERMS, Workshop.TERMS + 1, 3000, MAX};
    private static final int[] NO_NUMBERS = {MIN, -1, 200, MAX};

    private RefusedTest() {
    }

    private static void leafOfVariablesAndSorts() {
        for (int kind : new int[] {0, 2}) {
            for (int a : new int[] {0, 1, 198, 199}) {
                Workshop.tells("leaf(" + kind + ", " + a + ", 0)", x -> x.leaf(kind, a, 0), kind, a);
            }
            for (int a : NO_NUMBERS) {
                Workshop.refused("leaf(" + kind + ", " + a + ", 0)", x -> x.leaf(kind, a, 0));
            }
        }
    }

    private static void leafOfGlobals() {
        for (int g = 0; g < Workshop.GLOBALS; g++) {
            int there = g;
            Workshop.tells("leaf(1, " + g + ", 0)", x -> x.leaf(1, there, 0), 1, g);
        }
        for (int g : new int[] {MIN, -1, Workshop.GLOBALS, 59, 60, MAX}) {
            Workshop.refused("leaf(1, " + g + ", 0)", x -> x.leaf(1, g, 0));
        }
    }

    private static void leafOfRecs() {
        for (int b : new int[] {0, 199}) {
            Workshop.tells("leaf(3, family, " + b + ")", x -> x.leaf(3, Workshop.FAMILY, b), 3, Workshop.FAMILY);
        }
        for (int b : NO_NUMBERS) {
            Workshop.refused("leaf(3, family, " + b + ")", x -> x.leaf(3, Workshop.FAMILY, b));
        }
        for (int g : new int[] {MIN, -1, Workshop.AXIOM, Workshop.DEF, Workshop.TOLD_CONSTRUCTOR,
            Workshop.OPEN_CONSTRUCTOR, Workshop.GLOBALS, MAX}) {
            Workshop.refused("leaf(3, " + g + ", 0), no family", x -> x.leaf(3, g, 0));
        }
    }

    private static void leafWithB() {
        for (int kind = 0; kind <= 2; kind++) {
            int of = kind;
            for (int b : new int[] {MIN, -1, 1, 199, MAX}) {
                Workshop.refused("leaf(" + kind + ", 0, " + b + ")", x -> x.leaf(of, 0, b));
            }
        }
    }

    private static void otherKinds() {
        for (int kind : new int[] {MIN, -1, 4, 5, 6, 7, 8, 9, 10, MAX}) {
            Workshop.refused("leaf of kind " + kind, x -> x.leaf(kind, Workshop.FAMILY, 0));
        }
        for (int kind : new int[] {MIN, -1, 0, 1, 2, 3, 5, 6, 7, 8, 10, MAX}) {
            Workshop.refused("join of kind " + kind, x -> x.join(kind, Workshop.LOOSE, Workshop.SORT));
        }
        for (int kind : new int[] {MIN, -1, 0, 1, 2, 3, 4, 8, 9, 10, MAX}) {
            Workshop.refused("binder of kind " + kind, x -> x.binder(kind, 0, Workshop.SORT, Workshop.SORT));
        }
    }

    private static void joinOfNoTerms() {
        for (int kind : new int[] {4, 9}) {
            Workshop.tells("join of the first and the last", x -> x.join(kind, 0, Workshop.TERMS - 1), kind, 0);
            Workshop.tells("join of the last and the first", x -> x.join(kind, Workshop.TERMS - 1, 0), kind, 0);
            for (int t : NO_TERMS) {
                Workshop.refused("join(" + kind + ", " + t + ", 0)", x -> x.join(kind, t, 0));
                Workshop.refused("join(" + kind + ", 0, " + t + ")", x -> x.join(kind, 0, t));
                Workshop.refused("join(" + kind + ", " + t + ", " + t + ")", x -> x.join(kind, t, t));
            }
        }
    }

    private static void binderOfNoTerms() {
        for (int kind = 5; kind <= 7; kind++) {
            int of = kind;
            Workshop.tells("binder of the first and the last", x -> x.binder(of, 3, 0, Workshop.TERMS - 1), kind, 3);
            Workshop.tells("binder of the last and the first", x -> x.binder(of, 3, Workshop.TERMS - 1, 0), kind, 3);
            for (int t : NO_TERMS) {
                Workshop.refused("binder(" + kind + ", 3, " + t + ", 0)", x -> x.binder(of, 3, t, 0));
                Workshop.refused("binder(" + kind + ", 3, 0, " + t + ")", x -> x.binder(of, 3, 0, t));
            }
        }
    }

    private static void names() {
        for (int kind = 5; kind <= 7; kind++) {
            int of = kind;
            for (int name : new int[] {NONE, 0, 1, 98, 99}) {
                Workshop.tells("name " + name, x -> x.binder(of, name, 0, 0), kind, name);
            }
            for (int name : new int[] {MIN, -3, OUT, 100, 199, MAX}) {
                Workshop.refused("name " + name, x -> x.binder(of, name, 0, 0));
            }
        }
    }

    private static void lifts() {
        Workshop.tells("lift by 0", x -> x.lift(Workshop.LOOSE, 0), 0, 0);
        Workshop.tells("lift by 1", x -> x.lift(Workshop.LOOSE, 1), 8, 1);
        Workshop.tells("lift by 199", x -> x.lift(Workshop.LOOSE, 199), 8, 199);
        Workshop.tells("lift by both, 201", x -> x.lift(Workshop.LIFTED, 199), 8, 201);
        Workshop.tells("lift by both, 3", x -> x.lift(Workshop.LIFTED, 1), 8, 3);
        Workshop.tells("lift of a lifted one by 0", x -> x.lift(Workshop.LIFTED, 0), 8, 2);
        Workshop.tells("lift of a closed one", x -> x.lift(Workshop.FUN, 199), 5, 7);
        Workshop.tells("lift of a closed one by 0", x -> x.lift(Workshop.FUN, 0), 5, 7);
        for (int t : NO_TERMS) {
            Workshop.refused("lift(" + t + ", 0)", x -> x.lift(t, 0));
            Workshop.refused("lift(" + t + ", 1)", x -> x.lift(t, 1));
        }
        for (int k : NO_NUMBERS) {
            for (int t : new int[] {Workshop.LOOSE, Workshop.FUN, Workshop.LIFTED}) {
                Workshop.refused("lift(" + t + ", " + k + ")", x -> x.lift(t, k));
            }
        }
    }

    private static void defs() {
        Probe taken = Workshop.make();
        Due.is("a def of a closed one", taken.def(Workshop.FUN), Workshop.GLOBALS);
        Due.is("it is no term more", taken.terms(), Workshop.TERMS);
        Due.is("the next one", taken.def(Workshop.TERMS - 1), Workshop.GLOBALS + 1);
        for (int t : NO_TERMS) {
            Workshop.refused("def(" + t + ")", x -> x.def(t));
        }
        Workshop.refused("def of a variable", x -> x.def(Workshop.LOOSE));
        Workshop.refused("def of a lifted one", x -> x.def(Workshop.LIFTED));
        Workshop.refused("def of what lies under an all", x -> x.def(Workshop.TYPE - 1));
    }

    private static void families() {
        int[][] edges = {{0, 0, 0}, {4, 0, 0}, {0, 4, 0}, {0, 0, 5}, {4, 4, 5}};
        for (int[] e : edges) {
            String what = "family(" + e[0] + ", " + e[1] + ", " + e[2] + ")";
            Probe x = Workshop.make();
            Due.is(what, x.family(e[0], e[1], e[2]), Workshop.GLOBALS);
            Due.is(what + ", and its constructors lie behind it", x.axiom(), Workshop.GLOBALS + 1 + e[2]);
        }
        for (int wrong : new int[] {MIN, -1, 5, 6, MAX}) {
            Workshop.refused("family of " + wrong + " parameters", x -> x.family(wrong, 0, 0));
            Workshop.refused("family of " + wrong + " indices", x -> x.family(0, wrong, 0));
        }
        for (int wrong : new int[] {MIN, -1, 6, MAX - 1, MAX}) {
            Workshop.refused("family of " + wrong + " constructors", x -> x.family(0, 0, wrong));
        }
    }

    private static void constructors() {
        Probe taken = Workshop.make();
        Due.is("the type of the open one", taken.constructor(Workshop.OPEN_CONSTRUCTOR, Workshop.TYPE), 0);
        Due.is("and not again", taken.constructor(Workshop.OPEN_CONSTRUCTOR, Workshop.TYPE), NONE);
        for (int g : new int[] {MIN, -1, Workshop.AXIOM, Workshop.DEF, Workshop.FAMILY, Workshop.TOLD_CONSTRUCTOR,
            Workshop.GLOBALS, 60, MAX}) {
            Workshop.refused("constructor(" + g + ", type)", x -> x.constructor(g, Workshop.TYPE));
        }
        for (int t : NO_TERMS) {
            Workshop.refused("constructor(open, " + t + ")", x -> x.constructor(Workshop.OPEN_CONSTRUCTOR, t));
        }
        for (int t = 0; t < Workshop.TERMS; t++) {
            int wrong = t;
            if (t != Workshop.TYPE) {
                Workshop.refused("no type: " + t, x -> x.constructor(Workshop.OPEN_CONSTRUCTOR, wrong));
            }
        }
    }

    private static void headsAndNormalForms() {
        for (int fuel : new int[] {1, 2, 2999, 3000}) {
            Probe x = Workshop.make();
            Due.is("head with fuel " + fuel, x.head(Workshop.LOOSE, fuel), 0);
            Due.is("normal with fuel " + fuel, x.normal(Workshop.LOOSE, fuel, 1), Workshop.TERMS);
        }
        for (int fuel : new int[] {MIN, -1, 0, 3001, 40000, MAX}) {
            Workshop.refused("head with fuel " + fuel, x -> x.head(Workshop.LOOSE, fuel));
            Workshop.refused("normal with fuel " + fuel, x -> x.normal(Workshop.LOOSE, fuel, 1));
            Workshop.refused("head of a loop with fuel " + fuel, x -> x.head(Workshop.LOOP, fuel));
            Workshop.refused("normal of a loop with fuel " + fuel, x -> x.normal(Workshop.LOOP, fuel, 1));
        }
        for (int t : NO_TERMS) {
            Workshop.refused("head(" + t + ", 100)", x -> x.head(t, 100));
            Workshop.refused("normal(" + t + ", 100)", x -> x.normal(t, 100, 1));
        }
        for (int fuel : new int[] {1, 2, 3000}) {
            Workshop.changesNothing("head of a loop", x -> x.head(Workshop.LOOP, fuel), OUT);
            Workshop.changesNothing("normal of a loop", x -> x.normal(Workshop.LOOP, fuel, 1), OUT);
        }
    }

    private static void questions() {
        for (int what : new int[] {MIN, -2, -1, 3, 4, MAX}) {
            Workshop.refused("found(" + what + ")", x -> x.found(what));
            Workshop.refused("part(0, 0, " + what + ")", x -> x.part(0, 0, what));
        }
        for (int i : new int[] {MIN, -1, 1, 2, MAX}) {
            Workshop.refused("part(sort, " + i + ", 0)", x -> x.part(Workshop.SORT, i, 0));
        }
        for (int t : NO_TERMS) {
            Workshop.refused("part(" + t + ", 0, 0)", x -> x.part(t, 0, 0));
        }
        Workshop.changesNothing("terms()", Probe::terms, Workshop.TERMS);
        Workshop.changesNothing("cost()", Probe::cost, 3);
        Workshop.changesNothing("found(0)", x -> x.found(0), 2);
        Workshop.changesNothing("part(lifted, 0, 1)", x -> x.part(Workshop.LIFTED, 0, 1), 2);
    }

    public static void main(String[] args) {
        leafOfVariablesAndSorts();
        leafOfGlobals();
        leafOfRecs();
        leafWithB();
        otherKinds();
        joinOfNoTerms();
        binderOfNoTerms();
        names();
        lifts();
        defs();
        families();
        constructors();
        headsAndNormalForms();
        questions();
        Due.end();
    }
}

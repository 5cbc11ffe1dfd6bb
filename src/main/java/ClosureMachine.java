import java.util.Arrays;

/**
 * A machine that reduces terms of a calculus with bound variables, definitions and families with
 * eliminators. Nothing is substituted: a term stands beside the environment that says what its
 * variables mean, and both lie in rows that every call uses again.
 */
public final class ClosureMachine {
    public static final int NONE = -1;
    public static final int OUT = -2;

    private static final int VARIABLE = 0;
    private static final int GLOBAL = 1;
    private static final int SORT = 2;
    private static final int REC = 3;
    private static final int APPLICATION = 4;
    private static final int FUN = 5;
    private static final int ALL = 6;
    private static final int LET = 7;
    private static final int LIFTED = 8;
    private static final int TOLD = 9;

    private static final int MOST_TERMS = 3000;
    private static final int MOST_NODES = 2000;
    private static final int MOST_NODES_IN_ALL = 40000;
    private static final int MOST_GLOBALS = 60;
    private static final int MOST_NUMBER = 199;
    private static final int MOST_NAME = 99;
    private static final int MOST_FUEL = 3000;
    private static final int MOST_TELESCOPE = 4;
    private static final int MOST_CONSTRUCTORS = 5;

    private final Terms store;
    private final Globals globals;
    private final TypeReader types;
    private final Machine machine;
    private final Reader reader;
    private int costOfLast;
    private int foundKind;
    private int foundNumber;
    private int foundCount;

    public ClosureMachine() {
        store = new Terms();
        globals = new Globals();
        types = new TypeReader(store);
        machine = new Machine(store, globals);
        reader = new Reader(store, machine);
        costOfLast = NONE;
        foundKind = NONE;
        foundNumber = NONE;
        foundCount = NONE;
    }

    public int leaf(int kind, int a, int b) {
        boolean known = switch (kind) {
            case VARIABLE, SORT -> isNumber(a) && b == 0;
            case GLOBAL -> globals.at(a) != null && b == 0;
            case REC -> globals.ofKind(a, Global.FAMILY) != null && isNumber(b);
            default -> false;
        };
        return known ? store.addLeaf(kind, a, b) : NONE;
    }

    public int join(int kind, int a, int b) {
        if (kind != APPLICATION && kind != TOLD) {
            return NONE;
        }
        return store.has(a) && store.has(b) ? store.addPair(kind, 0, a, b) : NONE;
    }

    public int binder(int kind, int name, int a, int b) {
        if (kind != FUN && kind != ALL && kind != LET) {
            return NONE;
        }
        if (name != NONE && (name < 0 || name > MOST_NAME)) {
            return NONE;
        }
        return store.has(a) && store.has(b) ? store.addPair(kind, name, a, b) : NONE;
    }

    public int lift(int t, int k) {
        return store.has(t) && isNumber(k) ? store.addLifted(t, k) : NONE;
    }

    public int axiom() {
        return globals.roomFor(1) ? globals.add(new Global(Global.AXIOM)) : NONE;
    }

    public int def(int t) {
        if (!store.has(t) || store.loose(t) > 0 || !globals.roomFor(1)) {
            return NONE;
        }
        Global made = new Global(Global.DEF);
        made.value = store.root(t);
        return globals.add(made);
    }

    public int family(int parameters, int indices, int constructors) {
        if (!isUpTo(parameters, MOST_TELESCOPE) || !isUpTo(indices, MOST_TELESCOPE)
                || !isUpTo(constructors, MOST_CONSTRUCTORS) || !globals.roomFor(1 + constructors)) {
            return NONE;
        }
        return globals.addFamily(parameters, indices, constructors);
    }

    public int constructor(int g, int t) {
        Global made = globals.ofKind(g, Global.CONSTRUCTOR);
        if (made == null || made.recursive != null || !store.has(t) || store.loose(t) > 0) {
            return NONE;
        }
        Global family = globals.ofKind(made.family, Global.FAMILY);
        if (family == null) {
            return NONE;
        }
        int[] recursive = types.recursiveArguments(store.root(t), family, made.family);
        if (recursive == null) {
            return NONE;
        }
        made.tellArguments(recursive);
        return made.hypotheses;
    }

    public int head(int t, int fuel) {
        if (!store.has(t) || fuel < 1 || fuel > MOST_FUEL) {
            return NONE;
        }
        machine.start(fuel);
        machine.load(store.root(t), Machine.EMPTY);
        if (!machine.reduce()) {
            return OUT;
        }
        foundKind = machine.kindOfHead();
        foundNumber = machine.numberOfHead(0);
        foundCount = machine.length(machine.stack);
        return machine.spent;
    }

    public int found(int what) {
        return switch (what) {
            case 0 -> foundKind;
            case 1 -> foundNumber;
            case 2 -> foundCount;
            default -> NONE;
        };
    }

    public int normal(int t, int fuel) {
        if (!store.has(t) || fuel < 1 || fuel > MOST_FUEL) {
            return NONE;
        }
        int mark = store.nodes.size();
        machine.start(fuel);
        int root = reader.read(store.root(t));
        int size = store.nodes.size() - mark;
        int made = root == NONE || !store.fits(size) ? NONE : store.admit(root, size, size, reader.loose);
        if (made == NONE) {
            store.nodes.cut(mark);
            return root == NONE ? OUT : NONE;
        }
        costOfLast = machine.spent;
        return made;
    }

    public int cost() {
        return costOfLast;
    }

    public int terms() {
        return store.count();
    }

    public int part(int t, int i, int what) {
        if (!store.has(t) || i < 0 || i >= store.parts(t)) {
            return NONE;
        }
        int node = store.nodeOfPart(t, i);
        return switch (what) {
            case 0 -> store.kind(node);
            case 1 -> store.number(node);
            case 2 -> store.kind(node) == REC ? store.sortOfRec(node) : 0;
            default -> NONE;
        };
    }

    private static boolean isNumber(int number) {
        return isUpTo(number, MOST_NUMBER);
    }

    private static boolean isUpTo(int number, int most) {
        return number >= 0 && number <= most;
    }

    /** Rows of four numbers. What is not there reads as NONE, so no index leaves the array. */
    private static final class Rows {
        private static final int WIDTH = 4;
        private static final int ROWS_AT_FIRST = 64;

        private final int most;
        private int[] numbers;
        private int count;

        Rows(int most) {
            this.most = most;
            this.numbers = new int[WIDTH * ROWS_AT_FIRST];
            this.count = 0;
        }

        int add(int a, int b, int c, int d) {
            if (count >= most) {
                return NONE;
            }
            int start = count * WIDTH;
            if (start + WIDTH > numbers.length) {
                numbers = Arrays.copyOf(numbers, numbers.length * 2);
            }
            numbers[start] = a;
            numbers[start + 1] = b;
            numbers[start + 2] = c;
            numbers[start + 3] = d;
            return count++;
        }

        int get(int row, int column) {
            if (row < 0 || row >= count || column < 0 || column >= WIDTH) {
                return NONE;
            }
            return numbers[row * WIDTH + column];
        }

        void set(int row, int column, int number) {
            if (row >= 0 && row < count && column >= 0 && column < WIDTH) {
                numbers[row * WIDTH + column] = number;
            }
        }

        int size() {
            return count;
        }

        void cut(int size) {
            if (size >= 0 && size < count) {
                count = size;
            }
        }
    }

    /** The nodes that terms are made of, and the terms that have numbers. */
    private static final class Terms {
        static final int KIND = 0;
        static final int NUMBER = 1;
        static final int FIRST = 2;
        static final int SECOND = 3;
        /** A rec has no parts of its own, so its sort lies where others have their first one. */
        private static final int SORT_OF_REC = FIRST;

        private static final int ROOT = 0;
        private static final int SIZE = 1;
        private static final int PARTS = 2;
        private static final int LOOSE = 3;

        /** Told terms at most double the parts of a tree of nodes, lifted ones double them again. */
        private static final int MOST_PARTS = 4 * MOST_NODES;

        /** A normal form is written before its size is known, with a node for each cost at most. */
        final Rows nodes = new Rows(MOST_NODES_IN_ALL + MOST_TERMS + MOST_FUEL);
        private final Rows numbered = new Rows(MOST_TERMS);
        private final Rows walk = new Rows(MOST_PARTS);
        private int nodesInAll = 0;

        int kind(int node) {
            return nodes.get(node, KIND);
        }

        int number(int node) {
            return nodes.get(node, NUMBER);
        }

        int first(int node) {
            return nodes.get(node, FIRST);
        }

        int second(int node) {
            return nodes.get(node, SECOND);
        }

        int sortOfRec(int node) {
            return nodes.get(node, SORT_OF_REC);
        }

        int count() {
            return numbered.size();
        }

        boolean has(int term) {
            return term >= 0 && term < numbered.size();
        }

        int root(int term) {
            return numbered.get(term, ROOT);
        }

        int parts(int term) {
            return numbered.get(term, PARTS);
        }

        /** One more than the greatest loose variable; 0 when there is none. */
        int loose(int term) {
            return numbered.get(term, LOOSE);
        }

        private int size(int term) {
            return numbered.get(term, SIZE);
        }

        boolean fits(int size) {
            return numbered.size() < MOST_TERMS && size <= MOST_NODES
                    && size <= MOST_NODES_IN_ALL - nodesInAll;
        }

        int admit(int root, int size, int parts, int loose) {
            nodesInAll += size;
            return numbered.add(root, size, parts, loose);
        }

        int addLeaf(int kind, int a, int b) {
            if (!fits(1)) {
                return NONE;
            }
            return admit(nodes.add(kind, a, b, NONE), 1, 1, kind == VARIABLE ? a + 1 : 0);
        }

        int addPair(int kind, int number, int a, int b) {
            int size = size(a) + size(b) + (kind == TOLD ? 0 : 1);
            if (!fits(size)) {
                return NONE;
            }
            boolean binds = kind == FUN || kind == ALL || kind == LET;
            int loose = Math.max(loose(a), binds ? loose(b) - 1 : loose(b));
            int node = nodes.add(kind, number, root(a), root(b));
            return admit(node, size, 1 + parts(a) + parts(b), loose);
        }

        int addLifted(int term, int k) {
            int root = root(term);
            int size = size(term);
            int parts = parts(term);
            int loose = loose(term);
            if (!fits(size)) {
                return NONE;
            }
            if (k == 0 || loose == 0) {
                return admit(root, size, parts, loose);
            }
            if (kind(root) == LIFTED) {
                int both = nodes.add(LIFTED, number(root) + k, first(root), NONE);
                return admit(both, size, parts, loose + k);
            }
            return admit(nodes.add(LIFTED, k, root, NONE), size, parts + 1, loose + k);
        }

        int nodeOfPart(int term, int i) {
            walk.cut(0);
            int node = root(term);
            for (int seen = 0; seen < i; seen++) {
                int kind = kind(node);
                if (kind < APPLICATION) {
                    node = walk.get(walk.size() - 1, 0);
                    walk.cut(walk.size() - 1);
                } else {
                    if (kind != LIFTED) {
                        walk.add(second(node), 0, 0, 0);
                    }
                    node = first(node);
                }
            }
            return node;
        }
    }

    /** An axiom, a def, a family or a constructor. */
    private static final class Global {
        static final int AXIOM = 0;
        static final int DEF = 1;
        static final int FAMILY = 2;
        static final int CONSTRUCTOR = 3;

        final int kind;
        int value = NONE;
        int parameters = 0;
        int indices = 0;
        int constructors = 0;
        int family = NONE;
        int place = NONE;
        /** For each argument its type's node if it is recursive, else NONE; null until told. */
        int[] recursive = null;
        int hypotheses = 0;

        Global(int kind) {
            this.kind = kind;
        }

        void tellArguments(int[] typesOrNone) {
            recursive = typesOrNone;
            hypotheses = 0;
            for (int type : typesOrNone) {
                if (type != NONE) {
                    hypotheses++;
                }
            }
        }

        /** Parameters, M and the parts C: what a rec gives on to the recs in its hypotheses. */
        int partsThatStay() {
            return parameters + 1 + constructors;
        }

        int partsOfRec() {
            return partsThatStay() + indices + 1;
        }
    }

    private static final class Globals {
        private final Global[] all = new Global[MOST_GLOBALS];
        private int count = 0;

        boolean roomFor(int more) {
            return more <= MOST_GLOBALS - count;
        }

        Global at(int g) {
            return g >= 0 && g < count && g < all.length ? all[g] : null;
        }

        Global ofKind(int g, int kind) {
            Global there = at(g);
            return there != null && there.kind == kind ? there : null;
        }

        int add(Global made) {
            if (count < 0 || count >= all.length) {
                return NONE;
            }
            all[count] = made;
            return count++;
        }

        int addFamily(int parameters, int indices, int constructors) {
            Global family = new Global(Global.FAMILY);
            family.parameters = parameters;
            family.indices = indices;
            family.constructors = constructors;
            int g = add(family);
            for (int place = 0; place < constructors; place++) {
                Global made = new Global(Global.CONSTRUCTOR);
                made.family = g;
                made.place = place;
                add(made);
            }
            return g;
        }
    }

    /** Reads constructors' types as they stand. */
    private static final class TypeReader {
        private final Terms terms;

        TypeReader(Terms terms) {
            this.terms = terms;
        }

        /** For each argument its type's node if it is recursive, else NONE; null if it is no type. */
        int[] recursiveArguments(int root, Global family, int g) {
            int alls = countAlls(root);
            int arguments = alls - family.parameters;
            if (arguments < 0 || !isFamily(under(root, alls), family, g, alls)) {
                return null;
            }
            int[] recursive = new int[arguments];
            int node = under(root, family.parameters);
            for (int n = 0; n < arguments; n++) {
                int type = terms.first(node);
                int ys = countAlls(type);
                boolean again = isFamily(under(type, ys), family, g, family.parameters + n + ys);
                recursive[n] = again ? type : NONE;
                node = terms.second(node);
            }
            return recursive;
        }

        private int countAlls(int root) {
            int node = root;
            int alls = 0;
            for (; alls < MOST_NODES && terms.kind(node) == ALL; alls++) {
                node = terms.second(node);
            }
            return alls;
        }

        private int under(int root, int alls) {
            int node = root;
            for (int n = 0; n < alls; n++) {
                node = terms.second(node);
            }
            return node;
        }

        /** Whether a node below so many alls is the family put to its parameters and any indices. */
        private boolean isFamily(int root, Global family, int g, int alls) {
            int node = root;
            for (int n = family.parameters + family.indices - 1; n >= 0; n--) {
                if (terms.kind(node) != APPLICATION) {
                    return false;
                }
                if (n < family.parameters && !isVariable(terms.second(node), alls - 1 - n)) {
                    return false;
                }
                node = terms.first(node);
            }
            return terms.kind(node) == GLOBAL && terms.number(node) == g;
        }

        private boolean isVariable(int node, int number) {
            return terms.kind(node) == VARIABLE && terms.number(node) == number;
        }
    }

    /**
     * Reduces heads. What is reduced stands in a register (mode, at, env) with the terms that it is
     * put to on the stack. An environment or a stack is the first of a chain of cells; an
     * environment may end in -1 - s, and then means the loose variables from s on.
     */
    private static final class Machine {
        static final int EMPTY = -1;

        /** Modes lie above the kinds, so that one switch can tell both. At: a node, under env. */
        static final int TERM = 20;
        /** At: a loose variable's number. */
        static final int LOOSE = 21;
        /** At: how many binders of the normal form lie around the variable's own one. */
        static final int LEVEL = 22;
        /** At: the spine that a rec's last part was reduced to. */
        static final int REDUCED = 23;
        /** At: a hypothesis, the env being that of its type. */
        static final int HYPOTHESIS = 24;
        /** At: a hypothesis without alls left: its argument put to the YS. */
        static final int PUT = 25;

        static final int MODE = 0;
        static final int AT = 1;
        static final int ENV = 2;
        static final int NEXT = 3;

        /** A spine is a cell with a head, whose chain has what the head is put to. */
        private static final int SPINE = 0;
        /** Of a hypothesis: the cell of its argument, which no one marks as REDUCED. */
        private static final int ARGUMENT = 1;
        private static final int TYPE = 2;
        private static final int DEPTH = 3;
        /** Of a rec that waits: the cell of its last part. */
        private static final int LAST = 1;

        /** A binder of a normal form makes three cells for its cost of 1; nothing makes more. */
        private static final int MOST_CELLS = 4 * MOST_FUEL;
        private static final int MOST_STEPS = 1000000;

        private final Terms terms;
        private final Globals globals;
        final Rows cells = new Rows(MOST_CELLS);
        private final Rows hypotheses = new Rows(MOST_FUEL);
        private final Rows waiting = new Rows(MOST_FUEL);
        private int fuel = 0;
        int spent = 0;
        int mode = LOOSE;
        int at = 0;
        int env = EMPTY;
        int stack = EMPTY;

        Machine(Terms terms, Globals globals) {
            this.terms = terms;
            this.globals = globals;
        }

        void start(int fuelOfCall) {
            fuel = fuelOfCall;
            spent = 0;
            cells.cut(0);
            hypotheses.cut(0);
            waiting.cut(0);
        }

        boolean spend(int more) {
            spent += more;
            return spent <= fuel;
        }

        /**
         * Puts what a term means into the register. Variables are looked up here, once: no cell
         * holds one, so no chain of variables is ever walked at no cost.
         */
        void load(int node, int around) {
            int core = node;
            int under = around;
            int kind = terms.kind(core);
            for (int n = 0; n < Terms.MOST_PARTS && (kind == LIFTED || kind == TOLD); n++) {
                if (kind == LIFTED) {
                    under = drop(under, terms.number(core));
                    core = terms.first(core);
                } else {
                    core = terms.second(core);
                }
                kind = terms.kind(core);
            }
            if (kind != VARIABLE) {
                set(TERM, core, under);
                return;
            }
            int place = drop(under, terms.number(core));
            if (place >= 0) {
                loadCell(place);
            } else {
                set(LOOSE, -1 - place, EMPTY);
            }
        }

        void loadCell(int cell) {
            set(cells.get(cell, MODE), cells.get(cell, AT), cells.get(cell, ENV));
        }

        /** Takes the spine that the register tells, head and stack. */
        boolean loadSpine() {
            int spine = at;
            stack = next(spine);
            loadCell(spine);
            return true;
        }

        void set(int newMode, int newAt, int newEnv) {
            mode = newMode;
            at = newAt;
            env = newEnv;
        }

        /** What is left of an environment without its innermost variables. */
        private int drop(int around, int count) {
            int rest = around;
            int left = count;
            while (left > 0 && rest >= 0) {
                rest = cells.get(rest, NEXT);
                left--;
            }
            return rest - left;
        }

        int next(int cell) {
            return cells.get(cell, NEXT);
        }

        /** A cell with what the register has. */
        int keep(int before) {
            return cells.add(mode, at, env, before);
        }

        private int copy(int cell, int before) {
            return cells.add(cells.get(cell, MODE), cells.get(cell, AT), cells.get(cell, ENV), before);
        }

        private int copyFirst(int chain, int count, int rest) {
            int first = rest;
            int last = EMPTY;
            int cell = chain;
            for (int n = 0; n < count && cell >= 0; n++) {
                int made = cells.add(cells.get(cell, MODE), cells.get(cell, AT), cells.get(cell, ENV), rest);
                if (last < 0) {
                    first = made;
                } else {
                    cells.set(last, NEXT, made);
                }
                last = made;
                cell = next(cell);
            }
            return first;
        }

        private int nth(int chain, int n) {
            int cell = chain;
            for (int passed = 0; passed < n && cell >= 0; passed++) {
                cell = cells.get(cell, NEXT);
            }
            return cell;
        }

        int length(int chain) {
            int cell = chain;
            int length = 0;
            for (; length < MOST_CELLS && cell >= 0; length++) {
                cell = next(cell);
            }
            return length;
        }

        /** Reduces the head of what the register has; false when the fuel did not do. */
        boolean reduce() {
            stack = EMPTY;
            for (int step = 0; step < MOST_STEPS && spent <= fuel; step++) {
                boolean moved = switch (mode == TERM ? terms.kind(at) : mode) {
                    case GLOBAL -> unfold();
                    case REC -> waitForLast();
                    case APPLICATION -> apply();
                    case FUN -> bind();
                    case LET -> bindLet();
                    case HYPOTHESIS -> isFun(at) ? bindHypothesis() : unfoldHypothesis();
                    case PUT -> putArgument();
                    default -> false;
                };
                if (!moved && !resumeOne()) {
                    return true;
                }
            }
            return false;
        }

        private boolean unfold() {
            Global there = globals.ofKind(terms.number(at), Global.DEF);
            if (there == null) {
                return false;
            }
            if (spend(1)) {
                load(there.value, EMPTY);
            }
            return true;
        }

        private boolean apply() {
            int node = at;
            int around = env;
            if (spend(1)) {
                load(terms.second(node), around);
                stack = keep(stack);
                load(terms.first(node), around);
            }
            return true;
        }

        private boolean bind() {
            if (stack < 0) {
                return false;
            }
            if (spend(1)) {
                int inside = copy(stack, env);
                stack = next(stack);
                load(terms.second(at), inside);
            }
            return true;
        }

        private boolean bindLet() {
            int node = at;
            int around = env;
            if (spend(1)) {
                load(terms.first(node), around);
                load(terms.second(node), keep(around));
            }
            return true;
        }

        /** A rec with all its parts waits while the last of them is reduced. */
        private boolean waitForLast() {
            Global family = globals.ofKind(terms.number(at), Global.FAMILY);
            if (family == null) {
                return false;
            }
            int last = nth(stack, family.partsOfRec() - 1);
            if (last < 0) {
                return false;
            }
            waiting.add(keep(stack), last, 0, 0);
            stack = EMPTY;
            loadCell(last);
            return true;
        }

        /**
         * What the register has stays. If a rec waits for it that can go on, true; one that can not
         * stays itself, and so it is the turn of the one that waits for that.
         */
        private boolean resumeOne() {
            for (int top = waiting.size() - 1; top >= 0; top--) {
                int spine = waiting.get(top, SPINE);
                int last = waiting.get(top, LAST);
                waiting.cut(top);
                int g = terms.number(cells.get(spine, AT));
                Global family = globals.ofKind(g, Global.FAMILY);
                Global made = constructorOf(g);
                if (family != null && made != null && made.recursive != null
                        && length(stack) == family.parameters + made.recursive.length) {
                    if (spend(1 + made.recursive.length + made.hypotheses)) {
                        choose(family, made, spine, next(last));
                    }
                    return true;
                }
                cells.set(last, AT, keep(stack));
                cells.set(last, MODE, REDUCED);
                loadCell(spine);
                stack = next(spine);
            }
            return false;
        }

        private Global constructorOf(int g) {
            if (mode != TERM || terms.kind(at) != GLOBAL) {
                return null;
            }
            Global made = globals.ofKind(terms.number(at), Global.CONSTRUCTOR);
            return made != null && made.family == g ? made : null;
        }

        /**
         * Goes on with the part C of a constructor, the stack having the constructor's terms. The
         * environment of each argument's type is the tail of one chain, which is therefore walked
         * from its end, last argument first.
         */
        private void choose(Global family, Global made, int spine, int behind) {
            int[] recursive = made.recursive;
            int context = EMPTY;
            int cell = next(spine);
            for (int n = 0; n < family.parameters; n++) {
                context = copy(cell, context);
                cell = next(cell);
            }
            cell = nth(stack, family.parameters);
            for (int n = 0; n < recursive.length; n++) {
                context = copy(cell, context);
                cell = next(cell);
            }
            int rest = behind;
            int argument = context;
            for (int n = recursive.length - 1; n >= 0; n--) {
                if (recursive[n] != NONE) {
                    int hypothesis = hypotheses.add(spine, argument, recursive[n], 0);
                    rest = cells.add(HYPOTHESIS, hypothesis, next(argument), rest);
                }
                argument = next(argument);
            }
            argument = context;
            for (int n = 0; n < recursive.length; n++) {
                rest = copy(argument, rest);
                argument = next(argument);
            }
            stack = rest;
            loadCell(nth(next(spine), family.parameters + 1 + made.place));
        }

        private boolean isFun(int hypothesis) {
            return terms.kind(typeOfHypothesis(hypothesis)) == ALL;
        }

        private boolean bindHypothesis() {
            if (stack < 0) {
                return false;
            }
            if (spend(1)) {
                env = copy(stack, env);
                stack = next(stack);
                at = underHypothesis(at);
            }
            return true;
        }

        int typeOfHypothesis(int hypothesis) {
            return hypotheses.get(hypothesis, TYPE);
        }

        /** A hypothesis whose type is an all is a fun: this is what lies under it. */
        int underHypothesis(int hypothesis) {
            return hypotheses.add(hypotheses.get(hypothesis, SPINE), hypotheses.get(hypothesis, ARGUMENT),
                    terms.second(typeOfHypothesis(hypothesis)), hypotheses.get(hypothesis, DEPTH) + 1);
        }

        private boolean unfoldHypothesis() {
            int hypothesis = at;
            int context = env;
            int spine = hypotheses.get(hypothesis, SPINE);
            Global family = globals.ofKind(terms.number(cells.get(spine, AT)), Global.FAMILY);
            if (family == null) {
                return false;
            }
            if (spend(family.partsOfRec())) {
                int rest = cells.add(PUT, hypothesis, context, stack);
                int type = typeOfHypothesis(hypothesis);
                for (int n = 0; n < family.indices; n++) {
                    load(terms.second(type), context);
                    rest = keep(rest);
                    type = terms.first(type);
                }
                stack = copyFirst(next(spine), family.partsThatStay(), rest);
                loadCell(spine);
            }
            return true;
        }

        private boolean putArgument() {
            int ys = hypotheses.get(at, DEPTH);
            if (spend(ys)) {
                int y = env;
                for (int n = 0; n < ys; n++) {
                    stack = copy(y, stack);
                    y = next(y);
                }
                loadCell(hypotheses.get(at, ARGUMENT));
            }
            return true;
        }

        int kindOfHead() {
            return switch (mode) {
                case TERM -> terms.kind(at);
                case HYPOTHESIS -> FUN;
                default -> VARIABLE;
            };
        }

        /** A variable's number is that under so many binders of the normal form. */
        int numberOfHead(int binders) {
            return switch (mode) {
                case TERM -> terms.number(at);
                case HYPOTHESIS -> terms.number(typeOfHypothesis(at));
                case LEVEL -> binders - 1 - at;
                default -> at + binders;
            };
        }
    }

    /** Writes normal forms as nodes; what is still to be written lies in a row for each place. */
    private static final class Reader {
        private static final int CELL = 0;
        private static final int BINDERS = 1;
        private static final int NODE = 2;
        private static final int COLUMN = 3;

        private final Terms terms;
        private final Machine machine;
        private final Rows places = new Rows(2 * MOST_FUEL);
        private int root = NONE;
        int loose = 0;

        Reader(Terms terms, Machine machine) {
            this.terms = terms;
            this.machine = machine;
        }

        /** The normal form's node, or NONE when the machine's fuel did not do. */
        int read(int node) {
            places.cut(0);
            root = NONE;
            loose = 0;
            machine.load(node, Machine.EMPTY);
            places.add(machine.keep(Machine.EMPTY), 0, NONE, NONE);
            for (int written = 0; written <= MOST_FUEL && places.size() > 0; written++) {
                int top = places.size() - 1;
                int binders = places.get(top, BINDERS);
                int parent = places.get(top, NODE);
                int column = places.get(top, COLUMN);
                machine.loadCell(places.get(top, CELL));
                places.cut(top);
                // What was reduced as a rec's last part is not reduced, or paid, again.
                boolean done = machine.mode == Machine.REDUCED ? machine.loadSpine() : machine.reduce();
                if (!done || !machine.spend(1 + machine.length(machine.stack))) {
                    return NONE;
                }
                place(writeSpine(binders), parent, column);
            }
            return root;
        }

        private void place(int node, int parent, int column) {
            if (parent == NONE) {
                root = node;
            } else {
                terms.nodes.set(parent, column, node);
            }
        }

        private int writeSpine(int binders) {
            int cell = machine.stack;
            int length = machine.length(cell);
            int kind = machine.kindOfHead();
            int sort = kind == REC ? terms.sortOfRec(machine.at) : NONE;
            int node = terms.nodes.add(kind, machine.numberOfHead(binders), sort, NONE);
            if (machine.mode == Machine.LOOSE) {
                loose = Math.max(loose, machine.at + 1);
            }
            if (kind == FUN || kind == ALL) {
                openBinder(node, binders);
            }
            for (int n = 0; n < length; n++) {
                node = terms.nodes.add(APPLICATION, 0, node, NONE);
                places.add(cell, binders, node, Terms.SECOND);
                cell = machine.next(cell);
            }
            return node;
        }

        private void openBinder(int node, int binders) {
            int mode = machine.mode;
            int at = machine.at;
            int around = machine.env;
            boolean assumed = mode == Machine.HYPOTHESIS;
            int source = assumed ? machine.typeOfHypothesis(at) : at;
            machine.load(terms.first(source), around);
            places.add(machine.keep(Machine.EMPTY), binders, node, Terms.FIRST);
            int inside = machine.cells.add(Machine.LEVEL, binders, Machine.EMPTY, around);
            if (assumed) {
                machine.set(mode, machine.underHypothesis(at), inside);
            } else {
                machine.load(terms.second(source), inside);
            }
            places.add(machine.keep(Machine.EMPTY), binders + 1, node, Terms.SECOND);
        }
    }
}

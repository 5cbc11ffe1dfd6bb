import java.lang.reflect.Constructor;
import java.lang.reflect.Field;
import java.lang.reflect.Method;
import java.lang.reflect.Modifier;
import java.util.Set;
import java.util.TreeSet;

/** The class has the document's face and no other, and no call of it ever throws. */
public final class FaceTest {
    private static final int RUNS = 300;
    private static final int CALLS = 1500;
    private static final int[] EDGES = {Integer.MIN_VALUE, Integer.MIN_VALUE + 1, -201, -2, -1, 99, 100, 199, 200, 512,
        2999, 3000, 3001, 40000, Integer.MAX_VALUE - 1, Integer.MAX_VALUE};
    private static long seed;

    private FaceTest() {
    }

    private static void face() {
        Set<String> due = new TreeSet<>(Set.of("leaf/3", "join/3", "binder/4", "lift/2", "axiom/0", "def/1", "family/3",
                "constructor/2", "head/2", "found/1", "normal/2", "cost/0", "terms/0", "part/3", "NONE", "OUT", "new/0"));
        Set<String> there = new TreeSet<>();
        for (Method m : ClosureMachine.class.getDeclaredMethods()) {
            if (!Modifier.isPrivate(m.getModifiers()) && !m.isSynthetic()) {
                there.add(m.getName() + "/" + m.getParameterCount());
            }
        }
        for (Field f : ClosureMachine.class.getDeclaredFields()) {
            if (!Modifier.isPrivate(f.getModifiers()) && !f.isSynthetic()) {
                there.add(f.getName());
            }
        }
        for (Constructor<?> c : ClosureMachine.class.getDeclaredConstructors()) {
            there.add("new/" + c.getParameterCount());
        }
        System.out.println(there.equals(due) ? "the face is the document's" : "the face is " + there);
        Due.is("the face", there.equals(due) ? 1 : 0, 1);
        Due.is("final", Modifier.isFinal(ClosureMachine.class.getModifiers()) ? 1 : 0, 1);
        Due.is("NONE", ClosureMachine.NONE, -1);
        Due.is("OUT", ClosureMachine.OUT, -2);
    }

    private static int below(int bound) {
        seed = seed * 6364136223846793005L + 1442695040888963407L;
        return (int) ((seed >>> 33) % bound);
    }

    private static int small(int bound) {
        return below(40) == 0 ? EDGES[below(EDGES.length)] : below(bound);
    }

    private static int term(ClosureMachine x) {
        int terms = x.terms();
        return small(terms + 1);
    }

    private static int call(ClosureMachine x) {
        switch (below(20)) {
            case 0: case 1:
                return x.leaf(small(4), small(6), below(3) == 0 ? small(3) : 0);
            case 2: case 3: case 4: case 5: case 6:
                return x.join(below(6) == 0 ? 9 : 4, term(x), term(x));
            case 7: case 8:
                return x.binder(5 + small(3), small(20) - 1, term(x), term(x));
            case 9:
                return x.lift(term(x), small(200));
            case 10:
                return below(5) == 0 ? x.axiom() : x.terms();
            case 11:
                return x.def(term(x));
            case 12:
                return x.family(small(3), small(3), small(4));
            case 13: case 14:
                return x.constructor(small(12), term(x));
            case 15: case 16:
                return x.head(term(x), small(3001));
            case 17: case 18:
                return x.normal(term(x), small(3001));
            default:
                return x.part(term(x), small(30), small(3)) + x.found(small(3)) + x.cost();
        }
    }

    private static void wildCalls() {
        for (int run = 0; run < RUNS; run++) {
            seed = 1000003L * run + 11;
            ClosureMachine x = new ClosureMachine();
            for (int n = 0; n < CALLS; n++) {
                try {
                    call(x);
                } catch (RuntimeException | StackOverflowError thrown) {
                    thrown.printStackTrace(System.out);
                    Due.is("run " + run + ", call " + n + " threw", 1, 0);
                    return;
                }
            }
            Due.is("terms and limits", x.terms() <= 3000 ? 1 : 0, 1);
        }
    }

    private static void threeThousandTerms() {
        ClosureMachine x = new ClosureMachine();
        for (int t = 0; t < 3000; t++) {
            Due.is("term " + t, x.leaf(0, t % 200, 0), t);
        }
        Due.is("leaf 3000", x.leaf(0, 0, 0), ClosureMachine.NONE);
        Due.is("normal 3000", x.normal(0, 5), ClosureMachine.NONE);
        Due.is("lift 3000", x.lift(0, 0), ClosureMachine.NONE);
        Due.is("join 3000", x.join(4, 0, 0), ClosureMachine.NONE);
        Due.is("terms", x.terms(), 3000);
    }

    public static void main(String[] args) {
        face();
        wildCalls();
        threeThousandTerms();
        Due.end();
    }
}

import java.io.IOException;
import java.lang.reflect.Method;
import java.lang.reflect.Modifier;
import java.nio.file.Files;
import java.nio.file.Path;
import java.util.HashMap;
import java.util.List;
import java.util.Map;
import java.util.regex.Matcher;
import java.util.regex.Pattern;

/** The calls that README.md shows answer what it says behind them, and it names each call there is. */
public final class ReadmeTest {
    private static final Pattern NEW = Pattern.compile("ClosureMachine x = new ClosureMachine\\(\\);");
    private static final Pattern NAMED = Pattern.compile("int (\\w+) = ClosureMachine\\.(NONE|OUT); *//.*");
    private static final Pattern CALL = Pattern.compile(
            "(?:int (\\w+) = )?x\\.(\\w+)\\(([^)]*)\\); *// (-?\\d+|NONE|OUT)(?::.*)?");
    private static final int CALLS_SHOWN = 34;

    private static final Map<String, Integer> KNOWN = new HashMap<>();
    private static ClosureMachine x;
    private static int calls = 0;

    private ReadmeTest() {
    }

    private static int valueOf(String text) {
        return switch (text) {
            case "NONE" -> ClosureMachine.NONE;
            case "OUT" -> ClosureMachine.OUT;
            default -> KNOWN.containsKey(text) ? KNOWN.get(text) : Integer.parseInt(text);
        };
    }

    private static Method methodOf(String name) {
        for (Method m : ClosureMachine.class.getDeclaredMethods()) {
            if (Modifier.isPublic(m.getModifiers()) && m.getName().equals(name)) {
                return m;
            }
        }
        throw new IllegalStateException("there is no call " + name);
    }

    private static int answer(String name, String given) throws ReflectiveOperationException {
        String[] texts = given.isEmpty() ? new String[0] : given.split(", *");
        Object[] values = new Object[texts.length];
        for (int i = 0; i < texts.length; i++) {
            values[i] = valueOf(texts[i]);
        }
        return (Integer) methodOf(name).invoke(x, values);
    }

    private static void run(String line) throws ReflectiveOperationException {
        Matcher named = NAMED.matcher(line);
        Matcher call = CALL.matcher(line);
        if (NEW.matcher(line).matches()) {
            x = new ClosureMachine();
            KNOWN.clear();
        } else if (named.matches()) {
            KNOWN.put(named.group(1), valueOf(named.group(2)));
        } else if (call.matches()) {
            int got = answer(call.group(2), call.group(3));
            Due.is("README.md: " + line, got, valueOf(call.group(4)));
            KNOWN.put(call.group(1) == null ? "" : call.group(1), got);
            calls++;
        } else {
            Due.is("README.md: this line can not be run: " + line, 0, 1);
        }
    }

    private static void runBlocks(List<String> lines) throws ReflectiveOperationException {
        boolean inside = false;
        for (String line : lines) {
            if (line.startsWith("```")) {
                inside = line.equals("```java");
            } else if (inside) {
                run(line);
            }
        }
        Due.is("calls shown in README.md", calls, CALLS_SHOWN);
    }

    private static void namesEachCall(String text) {
        for (Method m : ClosureMachine.class.getDeclaredMethods()) {
            if (Modifier.isPublic(m.getModifiers())) {
                Due.is("README.md tells of " + m.getName(), text.contains("| `" + m.getName() + "(") ? 1 : 0, 1);
            }
        }
    }

    public static void main(String[] args) throws IOException, ReflectiveOperationException {
        Path readme = Path.of("README.md");
        runBlocks(Files.readAllLines(readme));
        namesEachCall(Files.readString(readme));
        Due.end();
    }
}

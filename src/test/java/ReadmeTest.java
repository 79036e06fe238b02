import java.io.IOException;
import java.lang.reflect.Method;
import java.lang.reflect.Modifier;
import java.nio.file.Files;
import java.nio.file.Path;
import java.util.HashMap;
import java.util.Map;
import java.util.Set;
import java.util.TreeSet;
import java.util.regex.Matcher;
import java.util.regex.Pattern;

/** What README.md shows of calls and their answers is what the class answers, and it shows each call. */
public final class ReadmeTest {
    private static final String NEW = "ConstantKinds x = new ConstantKinds();";
    private static final Pattern CALL =
            Pattern.compile("(?:int (\\w+) = )?x\\.(\\w+)\\(([^)]*)\\);\\s*// (-?\\d+): .+");

    private final Map<String, Long> known = new HashMap<>();
    private final Set<String> shown = new TreeSet<>();
    private ConstantKinds x = null;

    private ReadmeTest() {
        known.put("ConstantKinds.NONE", (long) ConstantKinds.NONE);
    }

    public static void main(String[] args) throws IOException, ReflectiveOperationException {
        new ReadmeTest().read(Files.readString(Path.of("README.md")));
        Due.end();
    }

    private void read(String readme) throws ReflectiveOperationException {
        boolean inside = false;
        for (String line : readme.split("\n")) {
            if (line.startsWith("```")) {
                inside = line.equals("```java");
            } else if (inside && line.equals(NEW)) {
                x = new ConstantKinds();
            } else if (inside && !line.isEmpty()) {
                ask(line);
            }
        }
        for (Method method : ConstantKinds.class.getDeclaredMethods()) {
            if (Modifier.isPublic(method.getModifiers())) {
                Due.yes("README.md shows " + method.getName(), shown.contains(method.getName()));
            }
        }
        Due.yes("README.md says how its tests are run", readme.contains("\n    .ci/run\n"));
    }

    private void ask(String line) throws ReflectiveOperationException {
        Matcher call = CALL.matcher(line);
        boolean isCall = call.matches() && x != null;
        Due.yes("that this line is a call with its answer: " + line, isCall);
        if (isCall) {
            long answer = answer(call.group(2), call.group(3).split(", "));
            Due.same(line, answer, Long.parseLong(call.group(4)));
            shown.add(call.group(2));
            if (call.group(1) != null) {
                known.put(call.group(1), answer);
            }
        }
    }

    private long answer(String name, String[] arguments) throws ReflectiveOperationException {
        for (Method method : ConstantKinds.class.getMethods()) {
            if (method.getName().equals(name)) {
                Object[] values = new Object[arguments.length];
                for (int i = 0; i < arguments.length; i++) {
                    values[i] = method.getParameterTypes()[i] == long.class
                            ? (Object) number(arguments[i]) : (Object) (int) number(arguments[i]);
                }
                return (Integer) method.invoke(x, values);
            }
        }
        throw new NoSuchMethodException(name);
    }

    private long number(String told) {
        return known.containsKey(told) ? known.get(told) : Long.decode(told.replace("L", ""));
    }
}

import java.lang.reflect.Method;
import java.util.HashMap;
import java.util.Map;

/** Calls by their names, so that tests can hold them in tables. */
final class Calls {
    private static final Map<String, Method> METHODS = new HashMap<>();

    static {
        for (Method m : MarbleRun.class.getDeclaredMethods()) {
            METHODS.put(m.getName(), m);
        }
    }

    private Calls() {
    }

    static long answer(MarbleRun x, String name, int... args) {
        Object[] boxed = new Object[args.length];
        for (int i = 0; i < args.length; i++) {
            boxed[i] = args[i];
        }
        try {
            return ((Number) METHODS.get(name).invoke(x, boxed)).longValue();
        } catch (ReflectiveOperationException e) {
            throw new IllegalStateException(told(name, args), e);
        }
    }

    /** A call as tables have it: its name and its numbers, parted by blanks. */
    static long answerLine(MarbleRun x, String line) {
        return answer(x, line.split(" ")[0], numbersOf(line));
    }

    static int[] numbersOf(String line) {
        String[] parts = line.split(" ");
        int[] args = new int[parts.length - 1];
        for (int i = 0; i < args.length; i++) {
            args[i] = Integer.parseInt(parts[i + 1]);
        }
        return args;
    }

    static String told(String name, int... args) {
        StringBuilder s = new StringBuilder(name).append('(');
        for (int i = 0; i < args.length; i++) {
            s.append(i > 0 ? ", " : "").append(args[i]);
        }
        return s.append(')').toString();
    }
}

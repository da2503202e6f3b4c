import java.lang.reflect.Method;
import java.lang.reflect.Modifier;
import java.util.ArrayList;
import java.util.Arrays;
import java.util.List;
import java.util.Map;
import java.util.TreeMap;

/** The class and the model of the document, both asked the same. */
final class Pair {
    private static final Map<String, Method> REAL = new TreeMap<>();
    private static final Map<String, Method> THOUGHT = new TreeMap<>();

    final Model model = new Model();
    final List<String> log = new ArrayList<>();
    private final RegretLocks real = new RegretLocks();
    private boolean right = true;

    static {
        for (Method m : RegretLocks.class.getDeclaredMethods()) {
            if (Modifier.isPublic(m.getModifiers())) {
                REAL.put(m.getName(), m);
                try {
                    THOUGHT.put(m.getName(), Model.class.getMethod(m.getName(), m.getParameterTypes()));
                } catch (NoSuchMethodException e) {
                    throw new IllegalStateException("the model does not know " + m, e);
                }
            }
        }
    }

    static List<String> names() {
        return new ArrayList<>(REAL.keySet());
    }

    static int parameters(String name) {
        return REAL.get(name).getParameterCount();
    }

    /** What is due by the model. */
    int call(String name, int... values) throws ReflectiveOperationException {
        Object[] args = new Object[values.length];
        for (int i = 0; i < args.length; i++) {
            args[i] = values[i];
        }
        int want = (Integer) THOUGHT.get(name).invoke(model, args);
        int got = (Integer) REAL.get(name).invoke(real, args);
        log.add("  " + name + Arrays.toString(args) + " answered " + got + (got == want ? "" : ", due is " + want));
        right &= got == want;
        return want;
    }

    /** Whether all answers were the ones that are due. */
    boolean isRight() {
        return right;
    }

    void tellLog() {
        System.out.println(log.size() + " calls, the last of them:");
        log.subList(Math.max(0, log.size() - 40), log.size()).forEach(System.out::println);
    }

    /** Feeds a text that starts on an empty tape. */
    void feed(String text) throws ReflectiveOperationException {
        for (int i = 0; i < text.length(); i += 12) {
            int[] three = new int[3];
            for (int k = 0; k < 12; k++) {
                three[k / 4] = three[k / 4] << 8 | (i + k < text.length() ? text.charAt(i + k) : ' ');
            }
            call("feed", three);
        }
        call("trim", text.length());
    }
}

import java.lang.reflect.InvocationTargetException;
import java.lang.reflect.Method;
import java.lang.reflect.Modifier;
import java.util.HashMap;
import java.util.Map;

/** One object and how often it was asked: nothing is promised behind its 512th call, so no test may go there. */
final class Asker {
    private static final int MOST_CALLS = 512;
    private static final Map<String, Method> FACE = face(NorthCurtains.class);
    private static final Map<String, Method> MODEL = face(Model.class);

    private final Object asked;
    private final Map<String, Method> face;
    private int calls;

    Asker() {
        asked = new NorthCurtains();
        face = FACE;
    }

    /** Asks the second reading of the document instead. */
    Asker(Model model) {
        asked = model;
        face = MODEL;
    }

    private static Map<String, Method> face(Class<?> of) {
        Map<String, Method> found = new HashMap<>();
        for (Method m : of.getDeclaredMethods()) {
            if (Modifier.isPublic(m.getModifiers())) {
                found.put(m.getName(), m);
            }
        }
        return found;
    }

    int ask(String name, int... args) {
        calls++;
        if (calls > MOST_CALLS) {
            throw new IllegalStateException("a test asks an object more than it may");
        }
        Object[] boxed = new Object[args.length];
        for (int i = 0; i < args.length; i++) {
            boxed[i] = args[i];
        }
        try {
            return (Integer) face.get(name).invoke(asked, boxed);
        } catch (InvocationTargetException | IllegalAccessException e) {
            throw new IllegalStateException(call(name, args) + " threw", e.getCause());
        }
    }

    int calls() {
        return calls;
    }

    static String call(String name, int... args) {
        StringBuilder text = new StringBuilder(name).append('(');
        for (int i = 0; i < args.length; i++) {
            text.append(i == 0 ? "" : ", ").append(args[i]);
        }
        return text.append(')').toString();
    }
}

import java.lang.reflect.InvocationTargetException;
import java.lang.reflect.Method;
import java.lang.reflect.Modifier;
import java.util.Arrays;
import java.util.Map;
import java.util.TreeMap;

/** A new map and a new model of the document, asked the same calls: each answer must be the model's. */
final class Pair {
    /** What later calls answer is free. */
    static final int MOST_CALLS = 512;
    static final Map<String, Method> FACE = face(Needlecase.class);
    private static final Map<String, Method> MODELLED = face(Model.class);
    private static final String THROWN = "throws.";

    /** What the model knows can be looked up without a call of the map. */
    final Model model = new Model();
    private final Needlecase x = new Needlecase();
    private final StringBuilder told = new StringBuilder();
    private int calls;

    private static Map<String, Method> face(Class<?> owner) {
        Map<String, Method> face = new TreeMap<>();
        for (Method method : owner.getDeclaredMethods()) {
            if (Modifier.isPublic(method.getModifiers())) {
                face.put(method.getName(), method);
            }
        }
        return face;
    }

    int callsLeft() {
        return MOST_CALLS - calls;
    }

    static boolean isThrown(String answer) {
        return answer.startsWith(THROWN);
    }

    /** Asks both and returns the answer as a text, or "throws." and the exception's name. */
    String ask(String name, Object... args) {
        calls++;
        if (calls > MOST_CALLS) {
            throw new AssertionError("more calls than an object is used for:\n" + told);
        }
        String due = answer(MODELLED.get(name), model, args);
        String got = answer(FACE.get(name), x, args);
        told.append(name).append(Arrays.toString(args)).append(" = ").append(due).append('\n');
        if (!due.equals(got)) {
            throw new AssertionError("call " + calls + " answered " + got + ", due is the last row:\n" + told);
        }
        return due;
    }

    private static String answer(Method method, Object owner, Object[] args) {
        try {
            return String.valueOf(method.invoke(owner, args));
        } catch (InvocationTargetException e) {
            return THROWN + e.getCause().getClass().getName();
        } catch (IllegalAccessException e) {
            throw new AssertionError(e);
        }
    }
}

import java.lang.reflect.InvocationTargetException;
import java.lang.reflect.Method;
import java.util.HashMap;
import java.util.Map;

/** Calls of FormRoom by their names, so that a table can tell them. */
final class Face {
    private static final Map<String, Method> CALLS = new HashMap<>();

    static {
        for (Method method : FormRoom.class.getDeclaredMethods()) {
            if (java.lang.reflect.Modifier.isPublic(method.getModifiers())) {
                CALLS.put(method.getName(), method);
            }
        }
    }

    private Face() {
    }

    static long ask(FormRoom room, String call, int... arguments) {
        Object[] boxed = new Object[arguments.length];
        for (int i = 0; i < arguments.length; i++) {
            boxed[i] = arguments[i];
        }
        try {
            return ((Number) CALLS.get(call).invoke(room, boxed)).longValue();
        } catch (IllegalAccessException | InvocationTargetException e) {
            throw new IllegalStateException(call, e);
        }
    }

    /** How a call tells a refusal: as it is, from the least long on, or, if it gets an item, as the least int. */
    static long told(String call, int refusal) {
        if (call.equals("get")) {
            return Integer.MIN_VALUE;
        }
        return CALLS.get(call).getReturnType() == long.class ? Long.MIN_VALUE - refusal : refusal;
    }
}

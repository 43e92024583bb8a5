import java.lang.reflect.InvocationTargetException;
import java.lang.reflect.Method;
import java.util.HashMap;
import java.util.Map;

/** Calls the face by name, on the program or on the model. */
final class Calls {
    static final String ILLEGAL = "illegal";

    private static final String[] FACE = {"seconds", "skew", "kill", "fuse", "start", "partnerDown", "ask", "send",
        "tidy", "give", "carry", "carryAll", "drop", "messages", "message", "client", "record", "server", "most"};

    private final Object target;
    private final Map<String, Method> methods = new HashMap<>();

    Calls(Object target) {
        this.target = target;
        for (String name : FACE) {
            for (Method method : target.getClass().getDeclaredMethods()) {
                if (method.getName().equals(name)) {
                    methods.put(name, method);
                }
            }
        }
    }

    static String[] face() {
        return FACE.clone();
    }

    int arguments(String name) {
        return methods.get(name).getParameterCount();
    }

    /** The answer as a text, "null" of a call that answers nothing; an exception of another class is a failure. */
    String answer(String name, int... arguments) {
        Object[] boxed = new Object[arguments.length];
        for (int i = 0; i < arguments.length; i++) {
            boxed[i] = arguments[i];
        }
        try {
            return String.valueOf(methods.get(name).invoke(target, boxed));
        } catch (InvocationTargetException e) {
            return e.getCause() instanceof IllegalArgumentException ? ILLEGAL : e.getCause().toString();
        } catch (IllegalAccessException e) {
            throw new IllegalStateException(e);
        }
    }
}

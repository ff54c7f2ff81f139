import java.lang.reflect.InvocationTargetException;
import java.lang.reflect.Method;
import java.util.Arrays;
import java.util.Map;
import java.util.Objects;
import java.util.TreeMap;

/** A TimeDesk and a PlainDesk that get the same calls: each answer and each exception must be the same. */
final class Twin {
    /** What later calls answer is free. */
    static final int MOST_CALLS = 512;
    private static final Map<String, Method> FACE = new TreeMap<>();
    private static final Map<String, Method> PLAIN = new TreeMap<>();

    static {
        for (Method method : PlainDesk.class.getDeclaredMethods()) {
            PLAIN.put(method.getName(), method);
        }
        for (Method method : TimeDesk.class.getMethods()) {
            if (method.getDeclaringClass() == TimeDesk.class) {
                FACE.put(method.getName(), method);
            }
        }
    }

    final PlainDesk plain = new PlainDesk();
    private final TimeDesk desk = new TimeDesk();
    private final String name;
    private int calls = 0;
    private boolean isWrong = false;

    Twin(String name) {
        this.name = name;
    }

    /** All methods of the face, by name. */
    static Method[] methods() {
        return FACE.values().toArray(new Method[0]);
    }

    /** Behind the first wrong answer nothing more can be told. */
    boolean isUsedUp() {
        return isWrong || calls >= MOST_CALLS;
    }

    /** Numbers are cut to what the method takes; a call beyond the last one is not made. */
    void call(String method, Object... given) {
        if (isUsedUp()) {
            return;
        }
        calls++;
        Object[] arguments = fitting(FACE.get(method), given);
        String told = name + ", call " + calls + ": " + method + Arrays.toString(arguments);
        Object want = outcome(PLAIN.get(method), plain, arguments);
        Object got = outcome(FACE.get(method), desk, arguments);
        isWrong = !Objects.equals(got, want);
        Check.due(told, String.valueOf(got), String.valueOf(want));
    }

    private static Object[] fitting(Method method, Object[] given) {
        Object[] arguments = given.clone();
        for (int i = 0; i < arguments.length; i++) {
            Class<?> type = method.getParameterTypes()[i];
            if (type == int.class) {
                arguments[i] = ((Number) arguments[i]).intValue();
            } else if (type == long.class) {
                arguments[i] = ((Number) arguments[i]).longValue();
            }
        }
        return arguments;
    }

    /** What the call answers, or the class of what it throws; null of a call that answers nothing. */
    private static Object outcome(Method method, Object on, Object[] arguments) {
        try {
            return method.invoke(on, arguments);
        } catch (InvocationTargetException e) {
            Throwable thrown = e.getCause();
            // Only the text tells a division of the machine from an exception that the class threw itself.
            return "/ by zero".equals(thrown.getMessage()) ? thrown.getMessage() : thrown.getClass();
        } catch (IllegalAccessException e) {
            return e;
        }
    }
}

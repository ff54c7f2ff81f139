import java.lang.reflect.Array;
import java.lang.reflect.Field;
import java.lang.reflect.InvocationTargetException;
import java.lang.reflect.Method;
import java.lang.reflect.Modifier;
import java.util.Arrays;
import java.util.Comparator;
import java.util.Random;

/**
 * Long runs of calls with any arguments: only what the document names is thrown, never by the machine,
 * and what throws or is refused changes nothing.
 */
public final class WildTest {
    private static final long[] EDGES = {0, 1, -1, 2, 3, 7, 8, 12, 13, 14, 15, 16, 28, 29, 59, 60, 9999, -9999, 10000,
        64800, -64800, 86400, 86399, 3600, 2932896, -4371587, 119999, -119988, 999999999, 1000000000,
        253400000000L, -377700000000L, 253399999999L, 86399999999999L, 86400000000000L,
        Integer.MAX_VALUE, Integer.MIN_VALUE, Long.MAX_VALUE, Long.MIN_VALUE, 1L << 62, 1L << 32};
    private static final String LINE = "2024-02-29T12:30:45.123456789-";

    public static void main(String[] args) throws Exception {
        Method[] calls = calls();
        Random random = new Random(512);
        for (int run = 0; run < 400; run++) {
            TimeDesk desk = new TimeDesk();
            for (int i = 0; i < 512; i++) {
                call(desk, calls[random.nextInt(calls.length)], random);
            }
        }
        Check.end();
    }

    /** In an order of their own, for the machine tells no fixed one. */
    private static Method[] calls() {
        return Arrays.stream(TimeDesk.class.getDeclaredMethods())
                .filter(method -> Modifier.isPublic(method.getModifiers()))
                .sorted(Comparator.comparing(Method::getName)).toArray(Method[]::new);
    }

    private static void call(TimeDesk desk, Method method, Random random) throws Exception {
        Object[] arguments = new Object[method.getParameterCount()];
        for (int i = 0; i < arguments.length; i++) {
            arguments[i] = any(method.getParameterTypes()[i], i, random);
        }
        boolean isReading = method.getName().equals("parse");
        String before = isReading ? stamps(desk) : state(desk);
        String told = method.getName() + Arrays.toString(arguments);
        boolean isRefused = false;
        try {
            isRefused = Boolean.FALSE.equals(method.invoke(desk, arguments));
        } catch (InvocationTargetException e) {
            isRefused = true;
            Throwable thrown = e.getCause();
            boolean isNamed = Arrays.asList(method.getExceptionTypes()).contains(thrown.getClass());
            Check.due(told + " threw " + thrown, isNamed && !"/ by zero".equals(thrown.getMessage()), true);
            Check.due(told + " threw in", thrown.getStackTrace()[0].getClassName(), "TimeDesk");
        }
        if (isRefused) {
            Check.due(told + " leaves", isReading ? stamps(desk) : state(desk), before);
        }
    }

    private static Object any(Class<?> type, int place, Random random) {
        if (type == boolean.class) {
            return random.nextBoolean();
        }
        if (type == char.class) {
            return random.nextInt(20) == 0 ? (char) random.nextInt(300) : LINE.charAt(random.nextInt(LINE.length()));
        }
        long number = anyNumber(place, random);
        if (type == int.class) {
            return (int) number;
        }
        return number;
    }

    private static long anyNumber(int place, Random random) {
        // Most slots and zones are there, or the calls would hardly ever come to their point.
        if (place == 0 && random.nextInt(10) > 0) {
            return random.nextInt(4);
        }
        switch (random.nextInt(4)) {
            case 0:
                return EDGES[random.nextInt(EDGES.length)];
            case 1:
                return random.nextLong() >> random.nextInt(64);
            default:
                return random.nextInt(random.nextBoolean() ? 9 : 30);
        }
    }

    private static String stamps(TimeDesk desk) throws Exception {
        StringBuilder all = new StringBuilder();
        tell(field(desk, "slots"), all);
        tell(field(desk, "zones"), all);
        return all.toString();
    }

    private static String state(TimeDesk desk) throws Exception {
        StringBuilder all = new StringBuilder(stamps(desk));
        Object line = field(desk, "line");
        int length = (Integer) field(line, "length");
        return all.append(new String((char[]) field(line, "chars"), 0, length)).toString();
    }

    private static Object field(Object of, String name) throws Exception {
        Field field = of.getClass().getDeclaredField(name);
        field.setAccessible(true);
        return field.get(of);
    }

    private static void tell(Object value, StringBuilder all) throws Exception {
        if (value.getClass().isArray()) {
            for (int i = 0; i < Array.getLength(value); i++) {
                tell(Array.get(value, i), all);
            }
        } else if (value instanceof Number) {
            all.append(value).append(' ');
        } else {
            for (Field field : value.getClass().getDeclaredFields()) {
                if (!Modifier.isStatic(field.getModifiers())) {
                    tell(field(value, field.getName()), all);
                }
            }
        }
    }
}

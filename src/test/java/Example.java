import java.lang.reflect.Field;
import java.lang.reflect.Method;
import java.util.HashMap;
import java.util.Map;

/** A program on one museum, run line by line as it is written. */
final class Example {
    private final Map<String, Integer> names = new HashMap<>();
    private MuseumNights museum;

    void begin() {
        museum = new MuseumNights();
        names.clear();
    }

    void name(String name, int value) {
        if (name != null) {
            names.put(name, value);
        }
    }

    int call(String method, String written) {
        String[] parts = written.isEmpty() ? new String[0] : written.split(", ");
        for (Method each : MuseumNights.class.getMethods()) {
            if (each.getName().equals(method) && each.getParameterCount() == parts.length) {
                return call(each, parts);
            }
        }
        throw new IllegalArgumentException("no such call: " + method + "(" + written + ")");
    }

    private int call(Method method, String[] parts) {
        Object[] arguments = new Object[parts.length];
        for (int i = 0; i < parts.length; i++) {
            arguments[i] = argument(method.getParameterTypes()[i], parts[i]);
        }
        try {
            return (Integer) method.invoke(museum, arguments);
        } catch (ReflectiveOperationException failed) {
            throw new IllegalStateException(failed);
        }
    }

    private Object argument(Class<?> type, String part) {
        if (type == char.class) {
            return part.charAt(1);
        }
        if (type == boolean.class) {
            return Boolean.valueOf(part);
        }
        return value(part);
    }

    /** A name of the program, a constant of the class, or a number. */
    int value(String written) {
        if (names.containsKey(written)) {
            return names.get(written);
        }
        for (Field constant : MuseumNights.class.getFields()) {
            if (constant.getName().equals(written)) {
                return valueOf(constant);
            }
        }
        return Integer.parseInt(written);
    }

    private static int valueOf(Field constant) {
        try {
            return constant.getInt(null);
        } catch (IllegalAccessException hidden) {
            throw new IllegalStateException(hidden);
        }
    }
}

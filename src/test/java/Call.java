import java.lang.reflect.InvocationTargetException;
import java.lang.reflect.Method;
import java.lang.reflect.Modifier;
import java.util.HashMap;
import java.util.Map;

/** A call of the face, from its text, "link(0, 1, 2)". */
final class Call {
    private static final Map<String, Call> KNOWN = new HashMap<>();

    private final Method method;
    private final Object[] arguments;

    private Call(String text) {
        int open = text.indexOf('(');
        method = methodOf(text.substring(0, open));
        String inside = text.substring(open + 1, text.lastIndexOf(')')).trim();
        String[] texts = inside.isEmpty() ? new String[0] : inside.split(",");
        Class<?>[] types = method.getParameterTypes();
        if (types.length != texts.length) {
            throw new IllegalArgumentException("no such call: " + text);
        }
        arguments = new Object[types.length];
        for (int i = 0; i < types.length; i++) {
            arguments[i] = argument(types[i], texts[i].trim());
        }
    }

    static Call of(String text) {
        return KNOWN.computeIfAbsent(text, Call::new);
    }

    /** The answer, or "throws." and the very class that was thrown. */
    String on(Cryway street) {
        try {
            return String.valueOf(method.invoke(street, arguments));
        } catch (InvocationTargetException e) {
            return "throws." + e.getCause().getClass().getSimpleName();
        } catch (IllegalAccessException e) {
            return "not to be called";
        }
    }

    private static Method methodOf(String name) {
        for (Method method : Cryway.class.getDeclaredMethods()) {
            if (Modifier.isPublic(method.getModifiers()) && method.getName().equals(name)) {
                return method;
            }
        }
        throw new IllegalArgumentException("no method " + name);
    }

    private static Object argument(Class<?> type, String text) {
        if (type == boolean.class) {
            return Boolean.valueOf(text);
        }
        if (type == char.class) {
            return text.startsWith("'") ? text.charAt(1) : (char) Integer.parseInt(text);
        }
        return text.equals("MIN") ? Integer.MIN_VALUE : text.equals("MAX") ? Integer.MAX_VALUE : Integer.valueOf(text);
    }
}

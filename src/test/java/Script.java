import java.lang.reflect.InvocationTargetException;
import java.lang.reflect.Method;
import java.util.ArrayList;
import java.util.List;

/**
 * Runs calls written as the document writes its examples, "place(1) = 0; link(0, 1, 2) = 0", each script on a
 * new object. A call that has to throw is written "place(10) = throws.IllegalArgumentException"; "3 * pass(60)"
 * makes the call three times, of which the last answer counts.
 *
 * Behind each script everything that can be asked of its object is compared with an object that saw the same
 * calls but for those that threw: so every script also tests that a call that throws changes nothing.
 */
final class Script {
    private static int wrong = 0;

    private Script() {
    }

    static void run(String name, String... lines) {
        Cryway street = new Cryway();
        List<String> kept = new ArrayList<>();
        for (String line : String.join(";", lines).split(";")) {
            if (!line.isBlank()) {
                runLine(name, street, line.trim(), kept);
            }
        }
        compareWithTwin(name, street, kept);
    }

    static void finish(String test) {
        System.out.println(test + ": " + (wrong == 0 ? "all answers are as due" : wrong + " are wrong"));
        if (wrong != 0) {
            System.exit(1);
        }
    }

    static void due(String name, String call, String got, String due) {
        if (!got.equals(due)) {
            wrong++;
            System.out.println(name + ": " + call + " answered " + got + ", due is " + due);
        }
    }

    private static void runLine(String name, Cryway street, String line, List<String> kept) {
        int equals = line.indexOf('=');
        String call = line.substring(0, equals).trim();
        String due = line.substring(equals + 1).trim();
        int times = 1;
        int star = call.indexOf('*');
        if (star >= 0) {
            times = Integer.parseInt(call.substring(0, star).trim());
            call = call.substring(star + 1).trim();
        }
        String got = "";
        for (int i = 0; i < times; i++) {
            got = answer(street, call);
            if (!got.startsWith("throws.")) {
                kept.add(call);
            }
        }
        due(name, line, got, due);
    }

    private static void compareWithTwin(String name, Cryway street, List<String> kept) {
        Cryway twin = new Cryway();
        for (String call : kept) {
            answer(twin, call);
        }
        List<String> probes = Probes.all();
        for (String probe : probes) {
            due(name + ", as without the calls that threw", probe, answer(street, probe), answer(twin, probe));
        }
    }

    /** The answer of one call, or "throws." and the very class that it threw. */
    static String answer(Cryway street, String call) {
        int open = call.indexOf('(');
        Method method = methodOf(call.substring(0, open));
        String inside = call.substring(open + 1, call.lastIndexOf(')')).trim();
        String[] texts = inside.isEmpty() ? new String[0] : inside.split(",");
        Class<?>[] types = method.getParameterTypes();
        Object[] arguments = new Object[types.length];
        for (int i = 0; i < types.length; i++) {
            arguments[i] = argument(types[i], texts[i].trim());
        }
        try {
            return String.valueOf(method.invoke(street, arguments));
        } catch (InvocationTargetException e) {
            return "throws." + e.getCause().getClass().getSimpleName();
        } catch (IllegalAccessException e) {
            return "not to be called";
        }
    }

    private static Method methodOf(String name) {
        for (Method method : Cryway.class.getDeclaredMethods()) {
            if (method.getName().equals(name)) {
                return method;
            }
        }
        throw new IllegalArgumentException("no method " + name);
    }

    private static Object argument(Class<?> type, String text) {
        if (type == boolean.class) {
            return Boolean.valueOf(text);
        }
        if (type == char.class) {
            return text.startsWith("'") ? text.charAt(1) : (char) Integer.parseInt(text);
        }
        return Integer.valueOf(text);
    }
}

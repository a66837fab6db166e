import java.lang.reflect.InvocationTargetException;
import java.lang.reflect.Method;
import java.lang.reflect.Modifier;
import java.util.Arrays;
import java.util.HashMap;
import java.util.List;
import java.util.Map;
import java.util.Set;
import java.util.concurrent.ConcurrentHashMap;

/** Calls by their names, of the program or of the model, and what the document says of each. */
final class Calls {
    static final Set<String> NAMING_FAULTS =
        Set.of("piece", "row", "chain", "grow", "gone", "sheet", "set", "cell", "copy", "as");
    private static final Set<String> ASKING = Set.of("way", "blind", "about", "at", "fits", "finding", "nothing",
        "chain", "odds", "likes", "told", "miss", "gone", "next", "rows", "still", "parted", "least", "looks", "cell",
        "as", "trace", "fault", "many");
    private static final Set<String> ZERO_IF_IT_WAS_SO = Set.of("road", "post", "shut", "bar", "lose", "scan");
    private static final Map<Class<?>, Map<String, Method>> METHODS = new ConcurrentHashMap<>();

    private Calls() { }

    static long ask(Object watch, String name, Object... numbers) {
        Method call = METHODS.computeIfAbsent(watch.getClass(), Calls::methodsOf).get(name + numbers.length);
        if (call == null) {
            throw new IllegalStateException("no call " + name + Arrays.toString(numbers));
        }
        try {
            return ((Number) call.invoke(watch, numbers)).longValue();
        } catch (InvocationTargetException e) {
            throw new IllegalStateException(name + Arrays.toString(numbers) + " threw", e.getCause());
        } catch (IllegalAccessException e) {
            throw new IllegalStateException(e);
        }
    }

    private static Map<String, Method> methodsOf(Class<?> face) {
        Map<String, Method> methods = new HashMap<>();
        for (Method m : face.getDeclaredMethods()) {
            if (!Modifier.isPrivate(m.getModifiers()) && !Modifier.isStatic(m.getModifiers())) {
                methods.put(m.getName() + m.getParameterCount(), m);
            }
        }
        return methods;
    }

    /** Whether an answer is a refusal or a FAULT. */
    static boolean isRefused(String name, long answer) {
        boolean isLost = answer == WireWatch.LOST;
        boolean isTextFault = name.equals("chain") && answer <= -100;
        boolean isNumber = name.equals("cell") || name.equals("trace");
        return isLost || isTextFault || !isNumber && (answer <= -1 && answer >= -4 || answer <= -11 && answer >= -14);
    }

    /** Whether a call that was so answered has left all as it was (fault() and scratch rows aside). */
    static boolean changesNothing(String name, long answer) {
        return isRefused(name, answer) || ASKING.contains(name) || answer == 0 && ZERO_IF_IT_WAS_SO.contains(name);
    }

    static String told(String name, Object... numbers) {
        List<Object> all = Arrays.asList(numbers);
        return name + all.toString().replace('[', '(').replace(']', ')');
    }
}

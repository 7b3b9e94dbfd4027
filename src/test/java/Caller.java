import java.lang.reflect.Method;
import java.lang.reflect.Modifier;
import java.util.Arrays;
import java.util.HashMap;
import java.util.Map;

/** A tote, ToteHouse or PlainTote, called by the names of its calls. */
final class Caller {
    private static final Map<Class<?>, Map<String, Method>> KNOWN = new HashMap<>();

    private final Object tote;
    private final Map<String, Method> calls;

    Caller(Object tote) {
        this.tote = tote;
        this.calls = callsOf(tote.getClass());
    }

    /** The public methods of a tote, which have different names. */
    static Map<String, Method> callsOf(Class<?> type) {
        return KNOWN.computeIfAbsent(type, Caller::publicMethods);
    }

    private static Map<String, Method> publicMethods(Class<?> type) {
        Map<String, Method> all = new HashMap<>();
        for (Method m : type.getDeclaredMethods()) {
            if (Modifier.isPublic(m.getModifiers())) {
                all.put(m.getName(), m);
            }
        }
        return all;
    }

    long call(String name, Object... args) {
        try {
            return ((Number) calls.get(name).invoke(tote, args)).longValue();
        } catch (ReflectiveOperationException e) {
            throw new IllegalStateException(name + Arrays.toString(args), e);
        }
    }
}

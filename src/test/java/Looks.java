import java.lang.reflect.Method;
import java.util.HashMap;
import java.util.LinkedHashMap;
import java.util.Map;

/** A tote, ToteHouse or PlainTote, called by the names of its calls; and all that can be seen of it. */
final class Looks {
    private final Object tote;
    private final Map<String, Method> calls = new HashMap<>();

    Looks(Object tote) {
        this.tote = tote;
        for (Method m : tote.getClass().getDeclaredMethods()) {
            if (java.lang.reflect.Modifier.isPublic(m.getModifiers())) {
                calls.put(m.getName(), m);
            }
        }
    }

    long call(String name, Object... args) {
        try {
            return ((Number) calls.get(name).invoke(tote, args)).longValue();
        } catch (ReflectiveOperationException e) {
            throw new IllegalStateException(name + java.util.Arrays.toString(args), e);
        }
    }

    /** What every looking call answers. Those that may make FINDINGS stand behind those that tell of them. */
    Map<String, Long> all() {
        Map<String, Long> seen = new LinkedHashMap<>();
        for (String name : new String[] {"finding", "came", "rest", "unclaimed", "worstDue", "digest"}) {
            look(seen, name);
        }
        for (int what = 0; what <= 16; what++) {
            look(seen, "count", what);
        }
        for (int k = 0; k < 6; k++) {
            look(seen, "trace", k);
        }
        money(seen);
        for (int window = 0; window < 6; window++) {
            slips(seen, window);
        }
        for (int s = 0; s < 4; s++) {
            for (int place = 0; place < 11; place++) {
                look(seen, "held", s, place);
            }
        }
        return seen;
    }

    private void money(Map<String, Long> seen) {
        for (int r = 0; r < 12; r++) {
            for (int what = 0; what < 23; what++) {
                look(seen, "raceAt", r, what);
            }
            for (int k = 0; k < 12; k++) {
                look(seen, "lapAt", r, k);
            }
            look(seen, "pace", r, 4);
        }
        for (int p = 0; p < 49; p++) {
            for (int what = 0; what < 11; what++) {
                look(seen, "book", p, what);
            }
        }
        for (int t = 0; t < 200; t++) {
            for (int what = 0; what < 8; what++) {
                look(seen, "ticket", t, what);
            }
        }
    }

    private void slips(Map<String, Long> seen, int window) {
        for (int i = 0; i < 12; i++) {
            look(seen, "kind", window, i);
            look(seen, "read", window, i);
            for (int k = 0; k < 4; k++) {
                look(seen, "letter", window, i, k);
            }
            for (int k = 0; k < 8; k++) {
                look(seen, "coinAt", window, i, k);
            }
        }
    }

    private void look(Map<String, Long> seen, String name, Object... args) {
        seen.put(name + java.util.Arrays.toString(args), call(name, args));
    }
}

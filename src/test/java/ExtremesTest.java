import java.lang.reflect.Method;
import java.util.Arrays;

/** Every call with the least and the greatest numbers, and those about 0, in each of its arguments at once. */
public final class ExtremesTest {
    private static final int LEAST = Integer.MIN_VALUE, MOST = Integer.MAX_VALUE;
    private static final int[] MANY = {LEAST, LEAST + 1, -1, 0, 1, 2, MOST - 1, MOST};
    private static final int[] FEW = {LEAST, -1, 0, 1, MOST};
    private static final long[] LETTERS = {Long.MIN_VALUE, Long.MIN_VALUE + 1, -1L, 0L, 1L, LEAST, MOST,
        Long.MAX_VALUE};
    /** After so many calls of the grid the day begins anew, so that an object is not used for more than it is for. */
    private static final int CALLS = 300;

    private static final Object[][] DAY = {
        {"race", 6}, {"race", 4}, {"pool", 0, 0, 0, 10}, {"pool", 0, 1, 100, 10}, {"pool", 0, 2, 100, 10},
        {"pool", 0, 3, 100, 10}, {"pool", 1, 3, 0, 20}, {"twin", 0, 1, 0, 10}, {"sell", 0, 0, 1, 0, 0, 5},
        {"sell", 1, 1, 1, 0, 0, 6}, {"sell", 2, 2, 1, 2, 0, 7}, {"sell", 0, 3, 1, 2, 3, 8}, {"sell", 1, 48, 1, 1, 0, 9},
        {"drawer", 0, 3}, {"drawer", 1, 3}, {"keep", 0, 0, 0}, {"coins", 0, 1, 2}, {"coin", 0, 1, 0, LEAST},
        {"coin", 0, 1, 1, -1}, {"note", 0, 2, -1L, 2}, {"keep", 1, 0, 2}, {"note", 1, 1, 7L, 1}, {"satchel", 0, 0, 3},
        {"satchel", 1, 1, 3}, {"gather", 0, 0, 0, 0, 1}, {"lap", 0, 0x40490FDB}, {"lap", 0, 0x7F800000},
        {"lap", 1, LEAST}, {"substitute", 0, 6}};
    private static final Object[][] RESULT = {
        {"scratch", 0, 2}, {"off", 0}, {"place", 0, 1, 1}, {"place", 0, 3, 2}, {"place", 0, 4, 2}, {"official", 0}};

    private final Method method;
    private final Object[][] days;
    private Caller tote;
    private Caller plain;
    private int left;

    private ExtremesTest(Method method, Object[]... days) {
        this.method = method;
        this.days = days;
    }

    public static void main(String[] args) {
        Object[][] both = Arrays.copyOf(DAY, DAY.length + RESULT.length);
        System.arraycopy(RESULT, 0, both, DAY.length, RESULT.length);
        int methods = 0;
        for (Method m : Caller.callsOf(ToteHouse.class).values()) {
            new ExtremesTest(m).each(new Object[m.getParameterCount()], 0);
            new ExtremesTest(m, DAY).each(new Object[m.getParameterCount()], 0);
            new ExtremesTest(m, both).each(new Object[m.getParameterCount()], 0);
            methods++;
        }
        Check.due(methods, 49);
        Check.end();
    }

    private void begin() {
        tote = new Caller(new ToteHouse());
        plain = new Caller(new PlainTote());
        for (Object[] call : days) {
            both((String) call[0], Arrays.copyOfRange(call, 1, call.length));
        }
        left = CALLS;
    }

    private void each(Object[] args, int next) {
        if (next == args.length) {
            one(args);
            return;
        }
        if (method.getParameterTypes()[next] == long.class) {
            for (long value : LETTERS) {
                args[next] = value;
                each(args, next + 1);
            }
            return;
        }
        for (int value : args.length > 5 ? FEW : MANY) {
            args[next] = value;
            each(args, next + 1);
        }
    }

    private void one(Object[] args) {
        if (left == 0 || tote == null) {
            begin();
        }
        left--;
        both(method.getName(), args);
        if (left % 20 == 0) {
            both("digest");
            both("finding");
            both("came");
        }
    }

    private void both(String name, Object... args) {
        long due = plain.call(name, args);
        long got = tote.call(name, args);
        Check.holds(got == due, name + Arrays.toString(args) + " answered " + got + ", due is " + due);
    }
}

import java.lang.reflect.Method;
import java.util.ArrayList;
import java.util.Arrays;
import java.util.List;
import java.util.Map;
import java.util.TreeSet;
import java.util.regex.Matcher;
import java.util.regex.Pattern;

/**
 * The refusals of one call, in the document's order, over a grid of arguments: each one has to be met alone and with
 * each other one, the first is the answer, and nothing is changed but what is told.
 */
final class Refusals {
    interface Met {
        boolean in(GridDay day, int[] a);
    }

    private record Rule(String name, Met met) {
        String word() {
            return name.replaceAll("\\d", "");
        }
    }

    private static final List<String> REFUSALS = List.of("UNKNOWN", "OUTSIDE", "SAME", "GONE", "STATE", "FULL");
    private static final List<String> FINDINGS = List.of("NULL", "INDEX", "CAST", "STORE", "SIZE", "ZERO");
    private static final Map<String, Method> CALLS = Caller.callsOf(ToteHouse.class);

    private final int promise;
    private final String name;
    private final boolean answersZero;
    private final List<int[]> values = new ArrayList<>();
    private final List<Rule> rules = new ArrayList<>();
    private final List<String> never = new ArrayList<>();
    private GridDay[] days = {GridDay.DOUBLED};
    private final TreeSet<String> seen = new TreeSet<>();

    private Refusals(int promise, String name, boolean answersZero) {
        this.promise = promise;
        this.name = name;
        this.answersZero = answersZero;
    }

    static Refusals of(int promise, String name) {
        return new Refusals(promise, name, false);
    }

    /** Of a call that answers 0 when it is refused. */
    static Refusals byZero(int promise, String name) {
        return new Refusals(promise, name, true);
    }

    Refusals on(GridDay... which) {
        days = which;
        return this;
    }

    /** What one more argument may be. */
    Refusals by(int... these) {
        values.add(these);
        return this;
    }

    Refusals refuses(String rule, Met met) {
        rules.add(new Rule(rule, met));
        return this;
    }

    /** Two that can not be at once. */
    Refusals never(String one, String... others) {
        for (String other : others) {
            never.add(one + " and " + other);
        }
        return this;
    }

    /** The words of the promise that tell refusals, in their order, are those of the rules. */
    void areTheDocuments() {
        List<String> due = wordsOf(promise);
        List<String> got = new ArrayList<>();
        for (Rule r : rules) {
            if (got.isEmpty() || !got.get(got.size() - 1).equals(r.word())) {
                got.add(r.word());
            }
        }
        Check.holds(due.equals(got), name + "() refuses " + got + ", the document tells " + due);
    }

    static List<String> wordsOf(int promise) {
        String text = Doc.textOf(promise).replace("FINDINGS as coin()", "NULL; INDEX; NULL, CAST; INDEX");
        Matcher m = Pattern.compile("\\b(" + String.join("|", REFUSALS) + "|" + String.join("|", FINDINGS) + ")\\b")
                .matcher(text);
        List<String> words = new ArrayList<>();
        while (m.find()) {
            words.add(m.group());
        }
        return words;
    }

    void run() {
        areTheDocuments();
        Check.due(values.size(), CALLS.get(name).getParameterCount());
        for (GridDay day : days) {
            long[] before = GridDay.seen(day.begin());
            each(day, before, new int[values.size()], 0);
        }
        for (int i = 0; i < rules.size(); i++) {
            String one = rules.get(i).name;
            Check.holds(seen.contains(one), name + "(): " + one + " was not met alone");
            for (int j = i + 1; j < rules.size(); j++) {
                String both = one + " and " + rules.get(j).name;
                boolean was = seen.contains(both);
                boolean may = !never.contains(both);
                Check.holds(was == may, name + "(): " + both + (was ? " was met" : " was not met"));
            }
        }
        Check.holds(seen.contains(""), name + "() was never taken");
    }

    private void each(GridDay day, long[] before, int[] a, int next) {
        if (next == a.length) {
            one(day, before, a);
            return;
        }
        for (int value : values.get(next)) {
            a[next] = value;
            each(day, before, a, next + 1);
        }
    }

    private void one(GridDay day, long[] before, int[] a) {
        List<String> met = new ArrayList<>();
        Rule first = null;
        for (Rule r : rules) {
            if (r.met.in(day, a)) {
                met.add(r.name);
                first = first == null ? r : first;
            }
        }
        note(met);
        ToteHouse x = day.begin();
        long answer = call(x, a);
        if (first == null) {
            Check.holds(answersZero || answer >= -1, told(a) + " answered " + answer + ", but nothing refuses it");
            return;
        }
        int number = FINDINGS.indexOf(first.word()) + 1;
        long due = answersZero ? 0 : number > 0 ? -10 - number : -2 - REFUSALS.indexOf(first.word());
        Check.holds(answer == due, told(a) + " answered " + answer + ", due is " + due + " by " + met);
        leavesAll(x, expected(before, number), a);
    }

    private void note(List<String> met) {
        if (met.size() <= 1) {
            seen.add(String.join("", met));
        }
        for (int i = 0; i < met.size(); i++) {
            for (int j = i + 1; j < met.size(); j++) {
                seen.add(met.get(i) + " and " + met.get(j));
            }
        }
    }

    private long call(ToteHouse x, int[] a) {
        Method m = CALLS.get(name);
        Object[] args = new Object[a.length];
        for (int i = 0; i < a.length; i++) {
            args[i] = m.getParameterTypes()[i] == long.class ? (Object) (long) a[i] : (Object) a[i];
        }
        return new Caller(x).call(name, args);
    }

    private String told(int[] a) {
        return name + Arrays.toString(a);
    }

    private long[] expected(long[] before, int finding) {
        long[] due = before.clone();
        if (finding > 0) {
            due[GridDay.FINDING] = finding;
            due[finding]++;
        }
        if (finding > 0 && (name.equals("gather") || name.equals("shift"))) {
            due[GridDay.CAME] = 0;
        }
        if (name.equals("ask")) {
            due[GridDay.TRACE] = 0;
            Arrays.fill(due, GridDay.TRACE + 1, GridDay.TRACE + 1 + GridDay.TRACED, ToteHouse.NONE);
        }
        return due;
    }

    private void leavesAll(ToteHouse x, long[] due, int[] a) {
        long[] got = GridDay.seen(x);
        for (int i = 0; i < due.length; i++) {
            if (got[i] != due[i]) {
                Check.tell(told(a) + " was refused, but look " + i + " tells " + got[i] + ", due is " + due[i]);
                return;
            }
        }
    }
}

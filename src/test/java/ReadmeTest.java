import java.io.IOException;
import java.lang.reflect.Field;
import java.lang.reflect.Modifier;
import java.nio.file.Files;
import java.nio.file.Path;
import java.util.ArrayList;
import java.util.HashMap;
import java.util.List;
import java.util.Map;
import java.util.TreeMap;
import java.util.TreeSet;
import java.util.regex.Matcher;
import java.util.regex.Pattern;

/** What README.md shows: the calls of its examples with the answers that it tells, its tables of calls and answers. */
public final class ReadmeTest {
    private static final Pattern EXAMPLE = Pattern.compile("(?s)```java\n(.*?)```");
    private static final String MADE = "ToteHouse tote = new ToteHouse();";
    /** Every call tells its answer: a number or the name of a constant, then perhaps words behind a colon. */
    private static final Pattern CALL = Pattern.compile(
            "(?:int (\\w+) = )?tote\\.(\\w+)\\(([^()]*)\\); *// (-?\\d+|[A-Z]+)(?:: .*)?");
    private static final Pattern ROW_OF_ANSWER = Pattern.compile("(?m)^\\| `([A-Z]+)` \\| (-\\d+) \\|");
    private static final Pattern ROW_OF_FINDING = Pattern.compile("(?m)^\\| ([A-Z]+) \\| (\\d) \\| (-\\d+) \\|");
    private static final Pattern FORM = Pattern.compile("`(\\w+)\\(([\\w, ]*)\\)`");

    private final Map<String, Integer> names = new HashMap<>();
    private Caller tote;

    public static void main(String[] args) throws IOException {
        String readme = Files.readString(Path.of(System.getProperty("readme", "README.md")));
        String document = Files.readString(Path.of(System.getProperty("shared", "../shared"), "DOC.md"));
        List<Long> told = examples(readme);
        answersBelowZero(readme, told);
        findings(readme, document, told);
        calls(readme, document);
        Check.end();
    }

    /** Each example is a program of its own; what all their calls answered. */
    private static List<Long> examples(String readme) {
        List<Long> told = new ArrayList<>();
        Matcher m = EXAMPLE.matcher(readme);
        while (m.find()) {
            ReadmeTest example = new ReadmeTest();
            for (String line : m.group(1).split("\n")) {
                example.run(line.trim(), told);
            }
        }
        Check.holds(!told.isEmpty(), "README.md has no example");
        return told;
    }

    private void run(String line, List<Long> told) {
        Matcher call = CALL.matcher(line);
        if (line.equals(MADE)) {
            tote = new Caller(new ToteHouse());
        } else if (tote != null && call.matches()) {
            long got = tote.call(call.group(2), arguments(call.group(2), call.group(3)));
            long due = valueOf(call.group(4));
            Check.holds(got == due, line + " answered " + got);
            told.add(got);
            if (call.group(1) != null) {
                names.put(call.group(1), (int) got);
            }
        } else {
            Check.holds(line.isEmpty() || line.startsWith("// "), "no call that tells its answer: " + line);
        }
    }

    private Object[] arguments(String call, String words) {
        Class<?>[] types = Caller.callsOf(ToteHouse.class).get(call).getParameterTypes();
        String[] each = words.isEmpty() ? new String[0] : words.split(", ");
        Object[] values = new Object[each.length];
        for (int i = 0; i < each.length; i++) {
            values[i] = types[i] == long.class ? (Object) longOf(each[i]) : (Object) valueOf(each[i]);
        }
        return values;
    }

    private static long longOf(String word) {
        return Long.decode(word.replaceAll("L$", ""));
    }

    private int valueOf(String word) {
        if (names.containsKey(word)) {
            return names.get(word);
        }
        Integer constant = constants().get(word);
        return constant != null ? constant : Integer.decode(word);
    }

    private static Map<String, Integer> constants() {
        Map<String, Integer> all = new TreeMap<>();
        try {
            for (Field f : ToteHouse.class.getDeclaredFields()) {
                if (Modifier.isPublic(f.getModifiers())) {
                    all.put(f.getName(), f.getInt(null));
                }
            }
        } catch (IllegalAccessException e) {
            throw new IllegalStateException(e);
        }
        return all;
    }

    /** The table has every constant with its number, and an example each, but for FULL, which takes many calls. */
    private static void answersBelowZero(String readme, List<Long> told) {
        Map<String, Integer> rows = new TreeMap<>();
        Matcher m = ROW_OF_ANSWER.matcher(readme);
        while (m.find()) {
            rows.put(m.group(1), Integer.decode(m.group(2)));
        }
        Check.holds(rows.equals(constants()), "README.md tells the constants " + rows);
        for (Map.Entry<String, Integer> row : rows.entrySet()) {
            boolean shown = told.contains((long) row.getValue());
            Check.holds(shown || row.getKey().equals("FULL"), "no example answers " + row.getKey());
        }
    }

    private static void findings(String readme, String document, List<Long> told) {
        int rows = 0;
        Matcher m = ROW_OF_FINDING.matcher(readme);
        while (m.find()) {
            rows++;
            Check.holds(document.contains(" " + m.group(2) + " " + m.group(1) + ": "), m.group() + " is no FINDING");
            Check.due(Integer.decode(m.group(3)), -10 - Integer.decode(m.group(2)));
            Check.holds(told.contains((long) Integer.decode(m.group(3))), "no example answers " + m.group(1));
        }
        Check.due(rows, 6);
    }

    /** The tables of calls have the document's face, call by call. */
    private static void calls(String readme, String document) {
        TreeSet<String> due = new TreeSet<>();
        Matcher face = Pattern.compile("public (?:int|long) (\\w+)\\(([^)]*)\\);").matcher(document);
        while (face.find()) {
            due.add(face.group(1) + "(" + face.group(2).replaceAll("(int|long) ", "") + ")");
        }
        TreeSet<String> got = new TreeSet<>();
        int start = readme.indexOf("### The calls");
        int end = readme.indexOf("\n## ", Math.max(0, start));
        Matcher form = FORM.matcher(start < 0 || end < 0 ? "" : readme.substring(start, end));
        while (form.find()) {
            got.add(form.group(1) + "(" + form.group(2) + ")");
        }
        TreeSet<String> missing = new TreeSet<>(due);
        missing.removeAll(got);
        got.removeAll(due);
        Check.due(due.size(), 49);
        Check.holds(missing.isEmpty(), "README.md leaves out " + missing);
        Check.holds(got.isEmpty(), "README.md tells calls that are none: " + got);
    }
}

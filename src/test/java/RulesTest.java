import java.io.IOException;
import java.lang.reflect.Field;
import java.lang.reflect.Method;
import java.lang.reflect.Modifier;
import java.nio.file.Files;
import java.nio.file.Path;
import java.util.ArrayList;
import java.util.List;
import java.util.Map;
import java.util.Set;
import java.util.TreeMap;
import java.util.TreeSet;
import java.util.regex.Matcher;
import java.util.regex.Pattern;

/** The file keeps to those rules of LANGUAGE.md that can be seen from its words and its shape. */
public final class RulesTest {
    private static final Pattern RULED_OUT = Pattern.compile(
            "\\b(throw|throws|try|catch|finally|synchronized|assert|import|package"
            + "|Float|Double|Object|System|Thread|Random|Exact|Override|lambda|transient|volatile|native|yield|var)\\b"
            + "|->|::|Exact\\(|@");
    /** A method, from the line that names it to the brace that stands as far to the right. */
    private static final Pattern METHOD = Pattern.compile(
            "(?m)^( +)(?:public |private |static |final )*(?:[A-Za-z]+(?:\\[\\])? )?(\\w+)\\(([^()]*)\\) \\{\n"
            + "((?:.*\n)*?)\\1\\}$");
    private static final Pattern CALLED = Pattern.compile("\\b(\\w+)\\(");
    private static final int MOST_LINES = 60, MOST_DEPTH = 8, MOST_PARAMETERS = 7, MOST_CLASSES = 12, MOST_FIELDS = 20;

    /** By the name of a method the names of those that it calls; of one name are several classes' methods together. */
    private final Map<String, Set<String>> calls = new TreeMap<>();

    public static void main(String[] args) throws IOException {
        String text = Files.readString(Path.of(System.getProperty("main", "src/main/java/ToteHouse.java")));
        String code = text.replaceAll("(?s)/\\*.*?\\*/", " ").replaceAll("//[^\n]*", " ");
        words(text, code);
        new RulesTest().methods(code);
        classes();
        Check.end();
    }

    private static void words(String text, String code) {
        Matcher m = RULED_OUT.matcher(code);
        while (m.find()) {
            Check.tell("the file has " + m.group());
        }
        Check.holds(text.chars().allMatch(c -> c < 128), "a character of the file is beyond 127");
    }

    private void methods(String code) {
        Matcher m = METHOD.matcher(code);
        while (m.find()) {
            Set<String> called = calls.computeIfAbsent(m.group(2), name -> new TreeSet<>());
            Matcher c = CALLED.matcher(m.group(4));
            while (c.find()) {
                called.add(c.group(1));
            }
            long lines = m.group(4).lines().count() + 2;
            Check.holds(lines <= MOST_LINES, m.group(2) + " has " + lines + " lines");
        }
        for (Method method : ToteHouse.class.getDeclaredMethods()) {
            Check.holds(calls.containsKey(method.getName()), method + " was not found in the file");
        }
        for (String name : calls.keySet()) {
            follow(name, List.of());
        }
    }

    /** No chain of calls is longer than it may be; as none has a method twice, there is no recursion. */
    private void follow(String name, List<String> above) {
        List<String> chain = new ArrayList<>(above);
        chain.add(name);
        if (above.contains(name) || chain.size() > MOST_DEPTH) {
            Check.tell("a chain of calls is too long: " + chain);
            return;
        }
        for (String next : calls.get(name)) {
            if (calls.containsKey(next)) {
                follow(next, chain);
            }
        }
    }

    private static void classes() {
        Class<?>[] inside = ToteHouse.class.getDeclaredClasses();
        Check.holds(inside.length < MOST_CLASSES, "too many classes");
        shape(ToteHouse.class);
        for (Class<?> c : inside) {
            shape(c);
        }
    }

    private static void shape(Class<?> c) {
        int fields = 0;
        for (Field f : c.getDeclaredFields()) {
            boolean constant = Modifier.isStatic(f.getModifiers());
            fields += constant ? 0 : 1;
            Check.holds(!constant || Modifier.isFinal(f.getModifiers()), f + " is not final");
        }
        Check.holds(fields <= MOST_FIELDS, c + " has too many fields");
        for (Method method : c.getDeclaredMethods()) {
            Check.holds(method.getParameterCount() <= MOST_PARAMETERS, method + " takes too many");
        }
    }
}

import java.io.IOException;
import java.lang.reflect.Constructor;
import java.lang.reflect.Field;
import java.lang.reflect.Method;
import java.lang.reflect.Modifier;
import java.nio.file.Files;
import java.nio.file.Path;
import java.util.HashSet;
import java.util.Set;
import java.util.TreeSet;
import java.util.regex.Matcher;
import java.util.regex.Pattern;

/** The face is the document's: no call, no constant, no constructor more or less. */
public final class FaceTest {
    public static void main(String[] args) throws IOException {
        constants();
        methods();
        Check.end();
    }

    private static Path shared(String name) {
        return Path.of(System.getProperty("shared", "../shared"), name);
    }

    private static void constants() {
        int[] due = {-1, -2, -3, -4, -5, -6, -7};
        int[] got = {ToteHouse.NONE, ToteHouse.UNKNOWN, ToteHouse.OUTSIDE, ToteHouse.SAME, ToteHouse.GONE,
            ToteHouse.STATE, ToteHouse.FULL};
        for (int i = 0; i < due.length; i++) {
            Check.due(got[i], due[i]);
        }
        int open = 0;
        for (Field f : ToteHouse.class.getDeclaredFields()) {
            open += Modifier.isPrivate(f.getModifiers()) ? 0 : 1;
            boolean changes = Modifier.isStatic(f.getModifiers()) && !Modifier.isFinal(f.getModifiers());
            Check.holds(!changes, f + " is not final");
        }
        Check.due(open, due.length);
    }

    private static void methods() throws IOException {
        Set<String> due = new TreeSet<>();
        Matcher m = Pattern.compile("public (int|long) (\\w+)\\(([^)]*)\\);").matcher(
                Files.readString(shared("DOC.md")));
        while (m.find()) {
            due.add(m.group(1) + " " + m.group(2) + "(" + m.group(3).replaceAll("(int|long) \\w+", "$1") + ")");
        }
        Set<String> got = new TreeSet<>();
        Set<String> names = new HashSet<>();
        for (Method method : ToteHouse.class.getDeclaredMethods()) {
            if (!Modifier.isPrivate(method.getModifiers())) {
                got.add(method.getReturnType() + " " + method.getName() + "(" + types(method) + ")");
                names.add(method.getName());
                Check.holds(Modifier.isPublic(method.getModifiers()), method + " is not public");
            }
        }
        Check.holds(due.size() == 49, "the document's face was not found");
        Check.holds(due.equals(got), "the face is " + got + ", due is " + due);
        for (Method method : ToteHouse.class.getDeclaredMethods()) {
            boolean hidden = Modifier.isPrivate(method.getModifiers());
            Check.holds(!hidden || !names.contains(method.getName()), method + " bears the name of a public one");
        }
        for (Constructor<?> c : ToteHouse.class.getDeclaredConstructors()) {
            Check.holds(Modifier.isPublic(c.getModifiers()) && c.getParameterCount() == 0, c + " is not due");
        }
        Check.holds(Modifier.isFinal(ToteHouse.class.getModifiers()), "the class is not final");
        for (Class<?> inside : ToteHouse.class.getDeclaredClasses()) {
            Check.holds(Modifier.isStatic(inside.getModifiers()), inside + " is not static");
        }
    }

    private static String types(Method method) {
        StringBuilder s = new StringBuilder();
        for (Class<?> c : method.getParameterTypes()) {
            s.append(s.length() == 0 ? "" : ", ").append(c);
        }
        return s.toString();
    }
}

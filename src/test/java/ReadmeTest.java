import java.io.IOException;
import java.lang.reflect.InvocationTargetException;
import java.lang.reflect.Method;
import java.lang.reflect.Modifier;
import java.nio.file.Files;
import java.nio.file.Path;
import java.util.Set;
import java.util.TreeSet;
import java.util.regex.Matcher;
import java.util.regex.Pattern;

/** The examples of README.md answer as it says, and leave out no call of the face; run it from the project's root. */
public final class ReadmeTest {
    private static final String NEW = "OctalHouse x = new OctalHouse();";
    private static final Pattern CALL = Pattern.compile("x\\.(\\w+)\\(([^)]*)\\);(?:\\s*//\\s*(.*))?");
    private static final Pattern NUMBER = Pattern.compile("(-?\\d+)(:.*)?");
    private static final Pattern THROWS = Pattern.compile("throws (\\w+)");

    private static final Set<String> called = new TreeSet<>();
    private static final Set<String> refused = new TreeSet<>();
    private static OctalHouse x;

    public static void main(String[] args) throws IOException, IllegalAccessException {
        String text = Files.readString(Path.of("README.md"));
        Matcher example = Pattern.compile("```java\n(.*?)```", Pattern.DOTALL).matcher(text);
        while (example.find()) {
            for (String line : example.group(1).split("\n")) {
                follow(line);
            }
        }
        for (Method m : OctalHouse.class.getDeclaredMethods()) {
            if (Modifier.isPublic(m.getModifiers())) {
                Check.due("README shows " + m.getName(), called.contains(m.getName()) ? 1 : 0, 1);
                Check.due("README's table has " + m.getName(), text.contains(" " + m.getName() + "(int ") || text.contains(" " + m.getName() + "()` |") ? 1 : 0, 1);
                Check.due("README shows how it throws: " + m.getName(), refused.contains(m.getName()) ? 1 : 0, m.getExceptionTypes().length == 0 ? 0 : 1);
            }
        }
        Check.end("ReadmeTest");
    }

    private static void follow(String line) throws IllegalAccessException {
        Matcher call = CALL.matcher(line);
        if (line.equals(NEW)) {
            x = new OctalHouse();
        } else if (call.matches() && x != null) {
            String[] written = call.group(2).isEmpty() ? new String[0] : call.group(2).split(", ");
            answer(line, methodOf(call.group(1)), values(written), call.group(3) == null ? "" : call.group(3));
        } else {
            Check.due("README: no call is " + line, 1, 0);
        }
    }

    private static Method methodOf(String name) {
        for (Method m : OctalHouse.class.getDeclaredMethods()) {
            if (Modifier.isPublic(m.getModifiers()) && m.getName().equals(name)) {
                return m;
            }
        }
        throw new IllegalArgumentException("no method is called " + name);
    }

    private static Object[] values(String[] written) {
        Object[] values = new Object[written.length];
        for (int i = 0; i < written.length; i++) {
            boolean truth = written[i].equals("true") || written[i].equals("false");
            values[i] = truth ? (Object) Boolean.valueOf(written[i]) : written[i].equals("OctalHouse.NONE") ? (Object) OctalHouse.NONE : Integer.decode(written[i]);
        }
        return values;
    }

    private static void answer(String line, Method m, Object[] values, String said) throws IllegalAccessException {
        called.add(m.getName());
        Matcher number = NUMBER.matcher(said);
        Matcher thrown = THROWS.matcher(said);
        String due = thrown.matches() ? thrown.group(1) : m.getReturnType() == void.class ? "null" : number.matches() ? number.group(1) : "an answer in README";
        String got;
        try {
            got = String.valueOf(m.invoke(x, values));
        } catch (InvocationTargetException e) {
            got = e.getCause().getClass().getSimpleName();
            refused.add(m.getName());
        }
        Check.due("README: " + line + " (" + got + ")", got.equals(due) ? 1 : 0, 1);
    }
}

import java.lang.reflect.Constructor;
import java.lang.reflect.Field;
import java.lang.reflect.Method;
import java.lang.reflect.Modifier;
import java.util.Arrays;
import java.util.TreeSet;

/** The face is the document's, and no more. */
public final class FaceTest {
    private static final String[] FACE = {
        "int run(int) IllegalArgumentException",
        "void go(int)",
        "int word(int) IndexOutOfBoundsException",
        "void set(int,int) IndexOutOfBoundsException",
        "int state(int)",
        "void switches(int)",
        "void device(int,boolean,int) IndexOutOfBoundsException IllegalArgumentException",
        "int give(int,int) IndexOutOfBoundsException IllegalStateException",
        "int out(int,int) IndexOutOfBoundsException",
        "int code(int,int)",
        "int sum()",
    };

    public static void main(String[] args) {
        TreeSet<String> visible = new TreeSet<>();
        for (Method m : OctalHouse.class.getDeclaredMethods()) {
            if (!Modifier.isPrivate(m.getModifiers())) {
                visible.add(told(m));
                Check.due(m.getName() + " is public and not static", m.getModifiers() & (Modifier.PUBLIC | Modifier.STATIC), Modifier.PUBLIC);
            }
        }
        for (String line : FACE) {
            Check.due("the face has " + line, visible.remove(line) ? 1 : 0, 1);
        }
        Check.due("members beside the face " + visible, visible.size(), 0);
        Check.due("the class is public and final", OctalHouse.class.getModifiers() & (Modifier.PUBLIC | Modifier.FINAL), Modifier.PUBLIC | Modifier.FINAL);
        Check.due("NONE", OctalHouse.NONE, -1);
        fields();
        constructors();
        Check.end("FaceTest");
    }

    private static String told(Method m) {
        StringBuilder s = new StringBuilder(m.getReturnType().getSimpleName()).append(' ').append(m.getName()).append('(');
        s.append(String.join(",", Arrays.stream(m.getParameterTypes()).map(Class::getSimpleName).toList())).append(')');
        for (Class<?> e : m.getExceptionTypes()) {
            s.append(' ').append(e.getSimpleName());
        }
        return s.toString();
    }

    private static void fields() {
        for (Field f : OctalHouse.class.getDeclaredFields()) {
            int due = f.getName().equals("NONE") ? Modifier.PUBLIC | Modifier.STATIC | Modifier.FINAL : Modifier.PRIVATE;
            Check.due("how " + f.getName() + " is seen", f.getModifiers() & due, due);
        }
    }

    private static void constructors() {
        Constructor<?>[] all = OctalHouse.class.getDeclaredConstructors();
        Check.due("constructors", all.length, 1);
        Check.due("its parameters", all[0].getParameterCount(), 0);
        Check.due("it is public", all[0].getModifiers() & Modifier.PUBLIC, Modifier.PUBLIC);
    }
}

import java.io.IOException;
import java.lang.reflect.Field;
import java.lang.reflect.Method;
import java.lang.reflect.Modifier;
import java.nio.file.Files;
import java.nio.file.Path;
import java.util.regex.Matcher;
import java.util.regex.Pattern;

/** Those rules of ../shared/LANGUAGE.md that the text of the class shows; run it from the project's root. */
public final class LanguageTest {
    private static final String[] REFUSED = {
        "->", "::", "\\bimport\\b", "\\bpackage\\b", "\\bcatch\\b", "\\btry\\b", "\\bfinally\\b", "\\bsynchronized\\b", "\\bassert\\b",
        "\\bprotected\\b", "\\bstatic\\s*\\{", "Exact\\b", "\\bSystem\\.(?!arraycopy)", "\\bShort\\b", "\\bObject\\b", "\\bgetMessage\\b",
        "\\bhashCode\\b", "\\btoString\\b", "\" \\+", "\\+ \"", "[^\\x00-\\x7F]", "\\bwhile \\(true", "\\bfor \\([^;)]*;\\s*;", "\\bequals\\b",
    };
    private static final String FACE_NAMES = "run|go|word|set|state|switches|device|give|out|code|sum";

    public static void main(String[] args) throws IOException {
        String text = Files.readString(Path.of("src/main/java/OctalHouse.java"));
        for (String refused : REFUSED) {
            Check.due("places with " + refused, count(refused, text), 0);
        }
        Check.due("public members and the class", count("\\bpublic\\b", text), 14);
        Check.due("methods with names of the face", count("(int|void|boolean|long) (" + FACE_NAMES + ")\\(", text), 11);
        Check.due("static fields that are not final", count("static (?!final)\\w+ \\w+( =|;)", text), 0);
        Check.due("throws of other classes", count("throw new (?!IllegalStateException|IllegalArgumentException|IndexOutOfBoundsException)", text), 0);
        Check.due("classes inside, at most twelve", count("static final class", text) <= 12 ? 1 : 0, 1);
        Check.due("methods of more than sixty lines", longMethods(text), 0);
        sizes(OctalHouse.class);
        for (Class<?> inside : OctalHouse.class.getDeclaredClasses()) {
            Check.due("static and not public: " + inside.getName(), inside.getModifiers() & (Modifier.STATIC | Modifier.PUBLIC | Modifier.PROTECTED), Modifier.STATIC);
            sizes(inside);
        }
        Check.end("LanguageTest");
    }

    /** The class is set so that a method ends at the first bracket that stands as far to the right as its own beginning. */
    private static int longMethods(String text) {
        Matcher m = Pattern.compile("(?m)^( +)(?!if|for|while|switch|\\})[^\\n=]*\\)( throws [\\w, ]+)? \\{\\n(?s:.*?)^\\1\\}$").matcher(text);
        int found = 0;
        int long60 = 0;
        while (m.find()) {
            found++;
            long60 += m.group().lines().count() > 60 ? 1 : 0;
        }
        Check.due("methods and constructors that were looked at", found > 70 ? 1 : 0, 1);
        return long60;
    }

    private static void sizes(Class<?> c) {
        int fields = 0;
        for (Field f : c.getDeclaredFields()) {
            fields += Modifier.isStatic(f.getModifiers()) ? 0 : 1;
            Check.due("static fields are numbers: " + f.getName(), Modifier.isStatic(f.getModifiers()) && f.getType() != int.class ? 1 : 0, 0);
        }
        Check.due("at most twenty fields: " + c.getName(), fields <= 20 ? 1 : 0, 1);
        for (Method m : c.getDeclaredMethods()) {
            Check.due("at most seven parameters: " + m.getName(), m.getParameterCount() <= 7 ? 1 : 0, 1);
        }
    }

    private static int count(String pattern, String text) {
        Matcher m = Pattern.compile(pattern).matcher(text);
        int found = 0;
        while (m.find()) {
            found++;
        }
        return found;
    }
}

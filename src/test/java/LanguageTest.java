import java.io.IOException;
import java.nio.file.Files;
import java.nio.file.Path;
import java.util.regex.Matcher;
import java.util.regex.Pattern;

/** Those rules of ../shared/LANGUAGE.md that the text of the class shows; run it from the project's root. */
public final class LanguageTest {
    private static final String[] REFUSED = {
        "->", "::", "\\bimport\\b", "\\bpackage\\b", "\\bcatch\\b", "\\btry\\b", "\\bfinally\\b", "\\bsynchronized\\b", "\\bassert\\b",
        "\\bprotected\\b", "\\bstatic\\s*\\{", "Exact\\b", "\\bSystem\\.(?!arraycopy)", "\\bShort\\b", "\\bObject\\b", "\\bgetMessage\\b",
        "\\bhashCode\\b", "\\btoString\\b", "\" \\+", "\\+ \"", "[^\\x00-\\x7F]",
    };
    private static final String FACE_NAMES = "run|go|word|set|state|switches|device|give|out|code|sum";

    public static void main(String[] args) throws IOException {
        String text = Files.readString(Path.of("src/main/java/OctalHouse.java"));
        for (String refused : REFUSED) {
            Check.due("places with " + refused, count(refused, text), 0);
        }
        Check.due("public members and the class", count("\\bpublic\\b", text), 14);
        Check.due("methods with names of the face", count("(int|void|boolean|long) (" + FACE_NAMES + ")\\(", text), 11);
        Check.due("static fields that are not final", count("static (?!final)\\w+ \\w+( =|;)", text), 0);
        Check.due("throws of other classes", count("throw new (?!IllegalStateException|IllegalArgumentException|IndexOutOfBoundsException)", text), 0);
        Check.due("classes inside, at most twelve", count("static final class", text) <= 12 ? 1 : 0, 1);
        Check.end("LanguageTest");
    }

    private static int count(String pattern, String text) {
        Matcher m = Pattern.compile(pattern).matcher(text);
        int found = 0;
        while (m.find()) {
            found++;
        }
        return found;
    }
}

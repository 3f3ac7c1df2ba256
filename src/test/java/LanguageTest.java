import java.io.IOException;
import java.lang.reflect.Field;
import java.lang.reflect.Method;
import java.lang.reflect.Modifier;
import java.nio.file.Files;
import java.nio.file.Path;
import java.util.regex.Matcher;
import java.util.regex.Pattern;

/** Rules of LANGUAGE.md that the source's text shows: what must not stand in it. */
public final class LanguageTest {
    private static final String[] FORBIDDEN = {
        "\\bFloat\\b", "\\bDouble\\b", "Exact\\b", "->", "::", "\\bcatch\\b", "\\btry\\b",
        "\\bfinally\\b", "\\bthrow\\b", "\\bsynchronized\\b", "\\bassert\\b", "\\bimport\\b",
        "\\bpackage\\b", "\\bSystem\\.(?!arraycopy)", "\\bThread\\b", "\\bstatic\\s*\\{",
        "\\bprotected\\b", "\\bRandom\\b", "\\bequals\\b", "\\bhashCode\\b", "\\btoString\\b",
        "\\bMath\\.(?!abs\\b|max\\b|min\\b|floorDiv\\b|floorMod\\b)", "[^\\x00-\\x7f]",
        "\\bwhile\\s*\\(true\\)", "for\\s*\\(;;\\)"
    };

    public static void main(String[] args) throws IOException {
        String source = Files.readString(Path.of("src/main/java/MoireEncoder.java"));
        String code = source.replaceAll("(?s)/\\*.*?\\*/", "").replaceAll("//[^\\n]*", "");
        for (String pattern : FORBIDDEN) {
            Matcher matcher = Pattern.compile(pattern).matcher(code);
            Check.due("source has " + pattern, matcher.find() ? matcher.group() : "", "");
        }
        int classes = code.split("\\bclass\\b", -1).length - 1;
        Check.due("at most twelve classes", classes <= 12, true);
        methodsAreShort(code);
        classesAreSmall(MoireEncoder.class);
        for (Class<?> inside : MoireEncoder.class.getDeclaredClasses()) {
            classesAreSmall(inside);
        }
        Check.finish();
    }

    private static void classesAreSmall(Class<?> type) {
        int fields = 0;
        for (Field field : type.getDeclaredFields()) {
            fields += Modifier.isStatic(field.getModifiers()) ? 0 : 1;
        }
        Check.due(type + " has at most twenty fields", fields <= 20, true);
        for (Method method : type.getDeclaredMethods()) {
            Check.due(method + " has at most seven parameters", method.getParameterCount() <= 7, true);
        }
    }

    private static void methodsAreShort(String code) {
        int length = 0;
        for (String line : code.split("\\n")) {
            boolean ends = line.equals("    }") || line.equals("        }") && length > 0;
            length = ends || line.isBlank() ? 0 : length + 1;
            Check.due("a method of more than sixty lines, at " + line, length <= 60, true);
        }
    }
}

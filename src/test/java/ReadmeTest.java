import java.io.IOException;
import java.lang.reflect.Method;
import java.nio.file.Files;
import java.nio.file.Path;
import java.util.regex.Matcher;
import java.util.regex.Pattern;

/** The examples of README.md answer what stands behind them, and every call is named there. */
public final class ReadmeTest {
    private static final Pattern BLOCK = Pattern.compile("(?s)```java\\n(.*?)```");
    private static final Pattern SETUP = Pattern.compile("for \\(char c : \"([^\"]*)\"");
    private static final Pattern CALL =
            Pattern.compile("encoder\\.(\\w+)\\(([-\\d, ]*)\\);\\s+// (-?\\d+)");

    private static int examples = 0;

    public static void main(String[] args) throws IOException, ReflectiveOperationException {
        String page = Files.readString(Path.of("README.md"));
        Matcher block = BLOCK.matcher(page);
        while (block.find()) {
            runExample(block.group(1));
        }
        Check.due("README has examples", examples >= 12, true);
        for (Method method : MoireEncoder.class.getMethods()) {
            if (method.getDeclaringClass() == MoireEncoder.class) {
                String name = "`" + method.getName() + "`";
                Check.due("README names " + name, page.contains(name), true);
            }
        }
        Check.finish();
    }

    private static void runExample(String code) throws ReflectiveOperationException {
        MoireEncoder encoder = new MoireEncoder();
        for (String line : code.split("\\n")) {
            Matcher setup = SETUP.matcher(line);
            Matcher call = CALL.matcher(line);
            if (setup.find()) {
                Check.type(encoder, setup.group(1));
            }
            if (call.find()) {
                long want = Long.parseLong(call.group(3));
                Check.due("README: " + line, answer(encoder, call.group(1), call.group(2)), want);
                examples++;
            }
        }
    }

    private static long answer(MoireEncoder encoder, String name, String numbers)
            throws ReflectiveOperationException {
        String[] parts = numbers.isEmpty() ? new String[0] : numbers.split(", ");
        Object[] values = new Object[parts.length];
        Class<?>[] types = new Class<?>[parts.length];
        for (int i = 0; i < parts.length; i++) {
            values[i] = Integer.valueOf(parts[i]);
            types[i] = int.class;
        }
        Method method = MoireEncoder.class.getMethod(name, types);
        return ((Number) method.invoke(encoder, values)).longValue();
    }
}

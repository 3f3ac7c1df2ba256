import java.util.regex.Matcher;
import java.util.regex.Pattern;

/** The document's setup text, read a second time by a pattern. */
final class Grammar {
    private static final Pattern STATEMENT =
            Pattern.compile("([pmr])([0-9]{1,4});|([id])([0-9]{1,4}),([0-9]{1,4});");

    private Grammar() {
    }

    /** Where the first invalid statement of a text begins, or -4. */
    static int firstError(String text) {
        Matcher matcher = STATEMENT.matcher(text);
        int start = 0;
        int last = -1;
        int marks = 0;
        int spans = 0;
        while (start < text.length()) {
            matcher.region(start, text.length());
            if (!matcher.lookingAt()) {
                return start;
            }
            boolean one = matcher.group(1) != null;
            char letter = (one ? matcher.group(1) : matcher.group(3)).charAt(0);
            int a = Integer.parseInt(one ? matcher.group(2) : matcher.group(4));
            int b = one ? 0 : Integer.parseInt(matcher.group(5));
            boolean valid = switch (letter) {
                case 'p' -> a >= 8 && a <= 80 && a % 4 == 0;
                case 'm' -> a == 1 || a == 2 || a == 4;
                case 'i' -> a >= 8 && a <= 80 && b <= 79;
                case 'r' -> a > last && ++marks <= 6;
                default -> b >= 1 && b <= 99 && ++spans <= 4;
            };
            if (!valid) {
                return start;
            }
            last = letter == 'r' ? a : last;
            start = matcher.end();
        }
        return -4;
    }

    /** What configure answers: the number of reference marks, or -2. */
    static int configure(String text) {
        if (firstError(text) != -4 || text.indexOf('p') < 0) {
            return -2;
        }
        return text.length() - text.replace("r", "").length();
    }
}

import java.lang.reflect.Constructor;
import java.lang.reflect.Field;
import java.lang.reflect.Method;
import java.lang.reflect.Modifier;
import java.util.Set;
import java.util.TreeSet;

/** The public face: what the document lists, and nothing else. */
public final class FaceTest {
    private static final String[] METHODS = {
        "int append(int)", "int clearText()", "int firstError()", "int configure()",
        "int moveTo(int,int)", "int setMode(int)", "int setIndexGrating(int,int)",
        "int addDirt(int,int)", "int removeDirt(int)", "int zeroSlip()", "int recover(int)",
        "int undo()", "int position()", "long counter()", "long slip()", "int misses()",
        "int samples()", "int missRateBits()", "int markPosition(int)", "int expectedCount(int)",
        "int eventKind(int)", "int eventPosition(int)", "long eventCounter(int)",
        "long predictSlip(int,int)", "int fastestSafeSpeed(int)", "int brightness(int,int)",
        "int brightestStart(int)", "int overlayPeriod()", "int fringePeriodNumerator()",
        "int fringePeriodDenominator()", "int magnificationBits()", "int crossedSpacingBits(int,int)"
    };

    public static void main(String[] args) {
        constants();
        members();
        methods();
        Check.finish();
    }

    private static void constants() {
        Check.due("INVALID_ARGUMENT", MoireEncoder.INVALID_ARGUMENT, -1);
        Check.due("NOT_POSSIBLE", MoireEncoder.NOT_POSSIBLE, -2);
        Check.due("CAPACITY_EXCEEDED", MoireEncoder.CAPACITY_EXCEEDED, -3);
        Check.due("NOT_FOUND", MoireEncoder.NOT_FOUND, -4);
        Check.due("AMBIGUOUS", MoireEncoder.AMBIGUOUS, -5);
        Check.due("MARK", MoireEncoder.MARK, 0);
        Check.due("MISS", MoireEncoder.MISS, 1);
    }

    private static void members() {
        int publicFields = 0;
        for (Field field : MoireEncoder.class.getDeclaredFields()) {
            int modifiers = field.getModifiers();
            boolean constant = Modifier.isStatic(modifiers) && Modifier.isFinal(modifiers);
            publicFields += Modifier.isPublic(modifiers) && constant ? 1 : 0;
            Check.due("field " + field.getName() + " is public or private",
                    Modifier.isPublic(modifiers) != Modifier.isPrivate(modifiers), true);
            Check.due("static field " + field.getName() + " is final",
                    Modifier.isStatic(modifiers) ? constant : true, true);
        }
        Check.due("public constants", publicFields, 7);
        Constructor<?>[] constructors = MoireEncoder.class.getDeclaredConstructors();
        Check.due("constructors", constructors.length, 1);
        Check.due("constructor", constructors[0].toString(), "public MoireEncoder()");
        Check.due("class", Modifier.toString(MoireEncoder.class.getModifiers()), "public final");
        for (Class<?> inside : MoireEncoder.class.getDeclaredClasses()) {
            Check.due(inside + " is static", Modifier.isStatic(inside.getModifiers()), true);
            Check.due(inside + " is not public", Modifier.isPublic(inside.getModifiers()), false);
        }
    }

    private static void methods() {
        Set<String> due = new TreeSet<>(Set.of(METHODS));
        Set<String> names = new TreeSet<>();
        Set<String> found = new TreeSet<>();
        for (Method method : MoireEncoder.class.getDeclaredMethods()) {
            if (Modifier.isPublic(method.getModifiers())) {
                found.add(signature(method));
                names.add(method.getName());
                Check.due(method + " is no static one", Modifier.isStatic(method.getModifiers()), false);
            }
        }
        Check.due("public methods", found, due);
        for (Method method : MoireEncoder.class.getDeclaredMethods()) {
            if (!Modifier.isPublic(method.getModifiers())) {
                Check.due(method + " is private", Modifier.isPrivate(method.getModifiers()), true);
                Check.due(method + " bears a public name", names.contains(method.getName()), false);
            }
        }
    }

    private static String signature(Method method) {
        StringBuilder text = new StringBuilder();
        text.append(method.getReturnType()).append(' ').append(method.getName()).append('(');
        String comma = "";
        for (Class<?> type : method.getParameterTypes()) {
            text.append(comma).append(type);
            comma = ",";
        }
        return text.append(')').toString();
    }
}

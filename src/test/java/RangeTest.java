/** Each range of arguments: all places near its ends, and arguments that lie far outside. */
public final class RangeTest {
    /** A call with one argument of interest. */
    private interface Call {
        long on(MoireEncoder x, int argument);
    }

    private static final int INVALID = -1;

    public static void main(String[] args) {
        promise02Character();
        promise06Target();
        promise06Speed();
        promise07Mode();
        promise08Pitch();
        promise08Offset();
        promise09Start();
        promise09Length();
        promise10Index();
        promise12Tolerance();
        promise20Index();
        promise21Position();
        promise22To24Index();
        promise25Target();
        promise25Speed();
        promise26Target();
        promise27Start();
        promise27Width();
        promise28Width();
        promise33Rise();
        promise33Run();
        Check.finish();
    }

    /** Within the range no error code, outside of it the code that is due. */
    private static void range(String name, Scenes.Scene scene, Call call, int least, int greatest) {
        range(name, scene, call, least, greatest, INVALID);
    }

    private static void range(String name, Scenes.Scene scene, Call call, int least, int greatest, long code) {
        for (int n = -300; n <= 300; n++) {
            one(name, scene, call, least + n, least, greatest, code);
            one(name, scene, call, greatest + n, least, greatest, code);
        }
        // A narrowed argument would fall back into the range here.
        for (int shift = 8; shift <= 31; shift++) {
            one(name, scene, call, least + (1 << shift), least, greatest, code);
            one(name, scene, call, greatest - (1 << shift), least, greatest, code);
        }
        one(name, scene, call, Integer.MIN_VALUE, least, greatest, code);
        one(name, scene, call, Integer.MIN_VALUE + 1, least, greatest, code);
        one(name, scene, call, Integer.MAX_VALUE, least, greatest, code);
    }

    private static void one(String name, Scenes.Scene scene, Call call, int argument, int least,
            int greatest, long code) {
        MoireEncoder x = scene.make();
        long answer = call.on(x, argument);
        String what = name + " with " + argument;
        if (argument >= least && argument <= greatest) {
            Check.due(what + " is in range", code == INVALID ? answer >= 0 : answer != code, true);
        } else {
            Check.due(what, answer, code);
        }
    }

    private static void promise02Character() {
        range("append", Scenes::fresh, MoireEncoder::append, 32, 126);
    }

    private static void promise06Target() {
        range("moveTo(n, 1)", Scenes::fresh, (x, n) -> x.moveTo(n, 1), 0, 9999);
        range("moveTo(n, 99)", Scenes::fresh, (x, n) -> x.moveTo(n, 99), 0, 9999);
        MoireEncoder x = new MoireEncoder();
        x.moveTo(9999, 99);
        Check.due("the head at its greatest position", x.position(), 9999);
        x.moveTo(0, 99);
        Check.due("the head at its least position", x.position(), 0);
    }

    private static void promise06Speed() {
        range("moveTo(0, n)", Scenes::fresh, (x, n) -> x.moveTo(0, n), 1, 99);
        range("moveTo(9999, n)", Scenes::fresh, (x, n) -> x.moveTo(9999, n), 1, 99);
    }

    private static void promise07Mode() {
        for (int mode = -300; mode <= 300; mode++) {
            boolean valid = mode == 1 || mode == 2 || mode == 4;
            Check.due("setMode(" + mode + ")", new MoireEncoder().setMode(mode), valid ? 4 : -1);
        }
        for (int shift = 3; shift <= 31; shift++) {
            for (int low : new int[] {0, 1, 2, 4}) {
                int mode = low + (1 << shift);
                Check.due("setMode(" + mode + ")", new MoireEncoder().setMode(mode), -1);
            }
        }
    }

    private static void promise08Pitch() {
        range("setIndexGrating(n, 0)", Scenes::fresh, (x, n) -> x.setIndexGrating(n, 0), 8, 80);
        range("setIndexGrating(n, 79)", Scenes::fresh, (x, n) -> x.setIndexGrating(n, 79), 8, 80);
    }

    private static void promise08Offset() {
        range("setIndexGrating(8, n)", Scenes::fresh, (x, n) -> x.setIndexGrating(8, n), 0, 79);
        range("setIndexGrating(80, n)", Scenes::fresh, (x, n) -> x.setIndexGrating(80, n), 0, 79);
    }

    private static void promise09Start() {
        range("addDirt(n, 1)", Scenes::fresh, (x, n) -> x.addDirt(n, 1), 0, 9999);
        range("addDirt(n, 99)", Scenes::fresh, (x, n) -> x.addDirt(n, 99), 0, 9999);
    }

    private static void promise09Length() {
        range("addDirt(0, n)", Scenes::fresh, (x, n) -> x.addDirt(0, n), 1, 99);
        range("addDirt(9999, n)", Scenes::fresh, (x, n) -> x.addDirt(9999, n), 1, 99);
    }

    private static void promise10Index() {
        String spans = "";
        for (int count = 0; count <= 4; count++) {
            String setup = "p8;" + spans;
            range("removeDirt of " + count, () -> Check.encoder(setup), MoireEncoder::removeDirt, 0, count - 1);
            spans = spans + "d" + count + ",5;";
        }
    }

    private static void promise12Tolerance() {
        range("recover", () -> {
            MoireEncoder x = Check.encoder("p20;r100;r300;");
            x.moveTo(350, 5);
            return x;
        }, MoireEncoder::recover, 0, 9);
    }

    private static void promise20Index() {
        String marks = "";
        for (int count = 0; count <= 6; count++) {
            String setup = "p8;" + marks;
            range("markPosition of " + count, () -> Check.encoder(setup), MoireEncoder::markPosition, 0, count - 1);
            marks = marks + "r" + count + ";";
        }
    }

    private static void promise21Position() {
        range("expectedCount", Scenes::fresh, MoireEncoder::expectedCount, 0, 9999);
    }

    /** An encoder whose head has passed its only mark that many times. */
    private static MoireEncoder events(int count) {
        MoireEncoder x = Check.encoder("p80;r20;");
        for (int n = 0; n < count; n++) {
            x.moveTo(n % 2 == 0 ? 21 : 19, 1);
        }
        return x;
    }

    private static void promise22To24Index() {
        for (int count = 0; count <= 9; count++) {
            int wanted = count;
            Scenes.Scene scene = () -> events(wanted);
            int held = Math.min(8, count);
            MoireEncoder x = scene.make();
            int seen = 0;
            while (seen < 9 && x.eventKind(seen) >= 0) {
                seen++;
            }
            Check.due("events of " + count + " passages", seen, held);
            range("eventKind of " + held, scene, MoireEncoder::eventKind, 0, held - 1);
            range("eventPosition of " + held, scene, MoireEncoder::eventPosition, 0, held - 1);
            range("eventCounter of " + held, scene, MoireEncoder::eventCounter, 0, held - 1, Long.MIN_VALUE);
        }
    }

    private static void promise25Target() {
        range("predictSlip(n, 1)", Scenes::fresh, (x, n) -> x.predictSlip(n, 1), 0, 9999, Long.MIN_VALUE);
        range("predictSlip(n, 99)", Scenes::fresh, (x, n) -> x.predictSlip(n, 99), 0, 9999, Long.MIN_VALUE);
    }

    private static void promise25Speed() {
        range("predictSlip(0, n)", Scenes::fresh, (x, n) -> x.predictSlip(0, n), 1, 99, Long.MIN_VALUE);
        range("predictSlip(9999, n)", Scenes::fresh, (x, n) -> x.predictSlip(9999, n), 1, 99, Long.MIN_VALUE);
    }

    private static void promise26Target() {
        range("fastestSafeSpeed", () -> Check.encoder("p20;"), MoireEncoder::fastestSafeSpeed, 0, 9999);
    }

    private static void promise27Start() {
        range("brightness(n, 1)", Scenes::fresh, (x, n) -> x.brightness(n, 1), 0, 999);
        range("brightness(n, 200)", Scenes::fresh, (x, n) -> x.brightness(n, 200), 0, 999);
    }

    private static void promise27Width() {
        range("brightness(0, n)", Scenes::fresh, (x, n) -> x.brightness(0, n), 1, 200);
        range("brightness(999, n)", Scenes::fresh, (x, n) -> x.brightness(999, n), 1, 200);
    }

    private static void promise28Width() {
        range("brightestStart", Scenes::fresh, MoireEncoder::brightestStart, 1, 200);
    }

    private static void promise33Rise() {
        range("crossedSpacingBits(n, 1)", Scenes::fresh, (x, n) -> x.crossedSpacingBits(n, 1), 1, 99);
        range("crossedSpacingBits(n, 999)", Scenes::fresh, (x, n) -> x.crossedSpacingBits(n, 999), 1, 99);
    }

    private static void promise33Run() {
        range("crossedSpacingBits(1, n)", Scenes::fresh, (x, n) -> x.crossedSpacingBits(1, n), 1, 999);
        range("crossedSpacingBits(99, n)", Scenes::fresh, (x, n) -> x.crossedSpacingBits(99, n), 1, 999);
    }
}

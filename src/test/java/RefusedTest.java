import java.util.function.ToLongFunction;

/**
 * "No method changes anything when it returns an error code. When several error codes apply to a
 * call, the first one named at that method's return value is returned."
 */
public final class RefusedTest {
    private static final long NONE = Long.MIN_VALUE;

    public static void main(String[] args) {
        promise02Append();
        promise04FirstError();
        promise05Configure();
        promise06MoveTo();
        promise07SetMode();
        promise08SetIndexGrating();
        promise09AddDirt();
        promise10RemoveDirt();
        promise12RecoverArgument();
        promise12RecoverNotPossible();
        promise12RecoverNotFound();
        promise12RecoverAmbiguous();
        promise13Undo();
        promise19MissRateBits();
        promise20And21Arguments();
        promise22To24Events();
        promise25And26Forecasts();
        promise26NotFound();
        promise27And28Windows();
        promise30To32EqualPitches();
        promise33CrossedSpacingBits();
        readingsChangeNothing();
        firstCodeOfAppend();
        firstCodeOfAddDirt();
        firstCodeOfRecover();
        firstCodeOfFastestSafeSpeed();
        Check.finish();
    }

    /** In a new encoder, in a changed one and in one that is full of everything. */
    private static void everywhere(String name, ToLongFunction<MoireEncoder> call, long code) {
        Scenes.refused(name + " when new", Scenes::fresh, call, code);
        Scenes.refused(name + " when changed", Scenes::half, call, code);
        Scenes.refused(name + " when full", Scenes::full, call, code);
    }

    private static void promise02Append() {
        everywhere("append(31)", x -> x.append(31), -1);
        everywhere("append(127)", x -> x.append(127), -1);
        Scenes.refused("append to 200 characters", Scenes::full, x -> x.append(';'), -3);
        Scenes.refused("append to 200 characters", Scenes::full, x -> x.append(' '), -3);
    }

    private static void promise04FirstError() {
        Scenes.refused("firstError of no text", Scenes::fresh, MoireEncoder::firstError, -4);
        Scenes.refused("firstError of a full text", Scenes::full, MoireEncoder::firstError, -4);
    }

    private static void promise05Configure() {
        Scenes.refused("configure without text", Scenes::fresh, MoireEncoder::configure, -2);
        Scenes.refused("configure by half a statement", Scenes::half, MoireEncoder::configure, -2);
        String[] incomplete = {"", "r5;", "i9,9;m2;r5;d5,5;", "p20", "p40;m1;i9,9;r7;d7,7", "p10;p8;",
            "p8;m3;", "p8;r5;r5;", "p8;i7,0;", "p8;d0,0;"};
        for (String text : incomplete) {
            Scenes.refused("configure by " + text, () -> {
                MoireEncoder x = Scenes.half();
                Check.type(x, text);
                return x;
            }, MoireEncoder::configure, -2);
        }
    }

    private static void promise06MoveTo() {
        everywhere("moveTo(-1, 1)", x -> x.moveTo(-1, 1), -1);
        everywhere("moveTo(10000, 99)", x -> x.moveTo(10000, 99), -1);
        everywhere("moveTo(500, 0)", x -> x.moveTo(500, 0), -1);
        everywhere("moveTo(500, 100)", x -> x.moveTo(500, 100), -1);
        everywhere("moveTo of its own place, 0", x -> x.moveTo(x.position(), 0), -1);
        everywhere("moveTo of its own place, 100", x -> x.moveTo(x.position(), 100), -1);
    }

    private static void promise07SetMode() {
        everywhere("setMode(0)", x -> x.setMode(0), -1);
        everywhere("setMode(3)", x -> x.setMode(3), -1);
        everywhere("setMode(5)", x -> x.setMode(5), -1);
    }

    private static void promise08SetIndexGrating() {
        everywhere("setIndexGrating(7, 5)", x -> x.setIndexGrating(7, 5), -1);
        everywhere("setIndexGrating(81, 5)", x -> x.setIndexGrating(81, 5), -1);
        everywhere("setIndexGrating(9, -1)", x -> x.setIndexGrating(9, -1), -1);
        everywhere("setIndexGrating(9, 80)", x -> x.setIndexGrating(9, 80), -1);
    }

    private static void promise09AddDirt() {
        everywhere("addDirt(-1, 9)", x -> x.addDirt(-1, 9), -1);
        everywhere("addDirt(10000, 9)", x -> x.addDirt(10000, 9), -1);
        everywhere("addDirt(9, 0)", x -> x.addDirt(9, 0), -1);
        everywhere("addDirt(9, 100)", x -> x.addDirt(9, 100), -1);
        Scenes.refused("a fifth span", Scenes::full, x -> x.addDirt(9, 9), -3);
    }

    private static void promise10RemoveDirt() {
        everywhere("removeDirt(-1)", x -> x.removeDirt(-1), -1);
        everywhere("removeDirt(4)", x -> x.removeDirt(4), -1);
        Scenes.refused("removeDirt(1) of one", Scenes::fresh, x -> x.removeDirt(1), -1);
        Scenes.refused("removeDirt(2) of two", Scenes::half, x -> x.removeDirt(2), -1);
        Scenes.refused("removeDirt(0) of none", () -> Check.encoder("p8;"), x -> x.removeDirt(0), -1);
    }

    private static void promise12RecoverArgument() {
        everywhere("recover(-1)", x -> x.recover(-1), -1);
        everywhere("recover(10)", x -> x.recover(10), -1);
    }

    private static void promise12RecoverNotPossible() {
        Scenes.refused("recover without events", Scenes::fresh, x -> x.recover(9), -2);
        Scenes.refused("recover with one mark event", () -> {
            MoireEncoder x = new MoireEncoder();
            x.moveTo(700, 4);
            x.moveTo(710, 10);
            return x;
        }, x -> x.recover(9), -2);
    }

    private static void promise12RecoverNotFound() {
        Scenes.refused("recover of the same mark", () -> {
            MoireEncoder x = new MoireEncoder();
            x.moveTo(410, 4);
            x.moveTo(390, 4);
            return x;
        }, x -> x.recover(9), -4);
        Scenes.refused("recover beyond the tolerance", () -> {
            MoireEncoder x = new MoireEncoder();
            x.moveTo(1100, 4);
            return x;
        }, x -> x.recover(3), -4);
    }

    private static void promise12RecoverAmbiguous() {
        Scenes.refused("recover with two pairs", () -> {
            MoireEncoder x = Check.encoder("p20;r100;r200;r300;d150,20;");
            x.moveTo(350, 4);
            return x;
        }, x -> x.recover(0), -5);
    }

    private static void promise13Undo() {
        Scenes.refused("undo when new", Scenes::fresh, MoireEncoder::undo, -2);
        Scenes.refused("undo behind configure", () -> Check.encoder("p8;r5;"), MoireEncoder::undo, -2);
        Scenes.refused("a seventh undo", () -> {
            MoireEncoder x = Scenes.full();
            for (int left = 5; left >= 0; left--) {
                Check.due("undo", x.undo(), left);
            }
            return x;
        }, MoireEncoder::undo, -2);
    }

    private static void promise19MissRateBits() {
        Scenes.refused("missRateBits", Scenes::fresh, MoireEncoder::missRateBits, -4);
    }

    private static void promise20And21Arguments() {
        everywhere("markPosition(-1)", x -> x.markPosition(-1), -1);
        everywhere("markPosition(6)", x -> x.markPosition(6), -1);
        everywhere("expectedCount(-1)", x -> x.expectedCount(-1), -1);
        everywhere("expectedCount(10000)", x -> x.expectedCount(10000), -1);
    }

    private static void promise22To24Events() {
        everywhere("eventKind(-1)", x -> x.eventKind(-1), -1);
        everywhere("eventKind(8)", x -> x.eventKind(8), -1);
        everywhere("eventPosition(-1)", x -> x.eventPosition(-1), -1);
        everywhere("eventPosition(8)", x -> x.eventPosition(8), -1);
        everywhere("eventCounter(-1)", x -> x.eventCounter(-1), NONE);
        everywhere("eventCounter(8)", x -> x.eventCounter(8), NONE);
    }

    private static void promise25And26Forecasts() {
        everywhere("predictSlip(-1, 1)", x -> x.predictSlip(-1, 1), NONE);
        everywhere("predictSlip(10000, 1)", x -> x.predictSlip(10000, 1), NONE);
        everywhere("predictSlip(5, 0)", x -> x.predictSlip(5, 0), NONE);
        everywhere("predictSlip(5, 100)", x -> x.predictSlip(5, 100), NONE);
        everywhere("fastestSafeSpeed(-1)", x -> x.fastestSafeSpeed(-1), -1);
        everywhere("fastestSafeSpeed(10000)", x -> x.fastestSafeSpeed(10000), -1);
    }

    private static void promise26NotFound() {
        Scenes.refused("fastestSafeSpeed into dirt", Scenes::fresh, x -> x.fastestSafeSpeed(660), -4);
    }

    private static void promise27And28Windows() {
        everywhere("brightness(-1, 1)", x -> x.brightness(-1, 1), -1);
        everywhere("brightness(1000, 1)", x -> x.brightness(1000, 1), -1);
        everywhere("brightness(0, 0)", x -> x.brightness(0, 0), -1);
        everywhere("brightness(0, 201)", x -> x.brightness(0, 201), -1);
        everywhere("brightestStart(0)", x -> x.brightestStart(0), -1);
        everywhere("brightestStart(201)", x -> x.brightestStart(201), -1);
    }

    private static void promise30To32EqualPitches() {
        Scenes.Scene equal = () -> Check.encoder("p24;i24,5;");
        Scenes.refused("fringePeriodNumerator", equal, MoireEncoder::fringePeriodNumerator, -4);
        Scenes.refused("fringePeriodDenominator", equal, MoireEncoder::fringePeriodDenominator, -4);
        Scenes.refused("magnificationBits", equal, MoireEncoder::magnificationBits, -4);
    }

    private static void promise33CrossedSpacingBits() {
        everywhere("crossedSpacingBits(0, 1)", x -> x.crossedSpacingBits(0, 1), -1);
        everywhere("crossedSpacingBits(100, 1)", x -> x.crossedSpacingBits(100, 1), -1);
        everywhere("crossedSpacingBits(1, 0)", x -> x.crossedSpacingBits(1, 0), -1);
        everywhere("crossedSpacingBits(1, 1000)", x -> x.crossedSpacingBits(1, 1000), -1);
    }

    /** The calls that only tell something are no changes, whatever they answer. */
    private static void readingsChangeNothing() {
        everywhere("all readings", x -> {
            Check.state(x);
            x.firstError();
            x.predictSlip(0, 99);
            x.predictSlip(x.position(), 1);
            x.fastestSafeSpeed(0);
            x.fastestSafeSpeed(9999);
            x.brightestStart(200);
            return 0;
        }, 0);
    }

    private static void firstCodeOfAppend() {
        for (int character : new int[] {-1, 0, 31, 127, 128}) {
            Check.due("range before room: " + character, Scenes.full().append(character), -1);
        }
    }

    private static void firstCodeOfAddDirt() {
        int[][] wrong = {{-1, 1}, {10000, 1}, {0, 0}, {0, 100}, {-1, 0}};
        for (int[] span : wrong) {
            Check.due("range before room: " + span[0] + "," + span[1],
                    Scenes.full().addDirt(span[0], span[1]), -1);
        }
    }

    private static void firstCodeOfRecover() {
        MoireEncoder x = Check.encoder("p20;");
        Check.due("range before too few events", x.recover(10), -1);
        Check.due("range before too few events", x.recover(-1), -1);
        Check.due("too few events before no pair", x.recover(0), -2);
        MoireEncoder y = Check.encoder("p20;r100;");
        y.moveTo(150, 1);
        Check.due("one event before no pair", y.recover(0), -2);
        y.moveTo(50, 1);
        Check.due("no pair", y.recover(0), -4);
        Check.due("range before no pair", y.recover(10), -1);
        MoireEncoder z = Check.encoder("p20;r100;r200;r300;");
        z.moveTo(150, 1);
        Check.due("one event before two pairs", z.recover(0), -2);
        z.moveTo(350, 1);
        Check.due("range before two pairs", z.recover(10), -1);
        Check.due("two pairs", z.recover(0), -5);
    }

    private static void firstCodeOfFastestSafeSpeed() {
        // From 9980 to 9998 nothing is read, so that the counter cannot follow the head there.
        MoireEncoder x = Check.encoder("p8;d9980,19;");
        x.moveTo(9998, 99);
        Check.due("range before not found", x.fastestSafeSpeed(10000), -1);
        Check.due("not found", x.fastestSafeSpeed(9990), -4);
    }
}

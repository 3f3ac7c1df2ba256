/** The five examples of the document. */
public final class ExamplesTest {
    public static void main(String[] args) {
        safeMove();
        dirtAndRecovery();
        tooFast();
        errors();
        fringes();
        Check.finish();
    }

    private static void safeMove() {
        MoireEncoder x = new MoireEncoder();
        Check.due("1 moveTo(500, 4)", x.moveTo(500, 4), 0);
        Check.due("1 position", x.position(), 500);
        Check.due("1 counter", x.counter(), 100);
        Check.due("1 slip", x.slip(), 0);
        Check.due("1 eventKind(0)", x.eventKind(0), 0);
        Check.due("1 eventPosition(0)", x.eventPosition(0), 400);
        Check.due("1 eventCounter(0)", x.eventCounter(0), 80);
    }

    private static void dirtAndRecovery() {
        MoireEncoder x = new MoireEncoder();
        Check.due("2 moveTo(1800, 4)", x.moveTo(1800, 4), 0);
        Check.due("2 slip", x.slip(), -4);
        Check.due("2 recover(0)", x.recover(0), 2);
        Check.due("2 slip recovered", x.slip(), 0);
        Check.due("2 undo", x.undo(), 1);
        Check.due("2 slip undone", x.slip(), -4);
    }

    private static void tooFast() {
        MoireEncoder x = new MoireEncoder();
        Check.due("3 moveTo(100, 10)", x.moveTo(100, 10), 10);
        Check.due("3 counter", x.counter(), 0);
        Check.due("3 misses", x.misses(), 10);
        Check.due("3 samples", x.samples(), 10);
        Check.due("3 eventKind(0)", x.eventKind(0), 1);
        Check.due("3 eventKind(1)", x.eventKind(1), -1);
        Check.due("3 fastestSafeSpeed(0)", x.fastestSafeSpeed(0), 5);
    }

    private static void errors() {
        MoireEncoder x = new MoireEncoder();
        Check.due("4 moveTo(10000, 4)", x.moveTo(10000, 4), -1);
        Check.due("4 setMode(3)", x.setMode(3), -1);
        Check.due("4 recover(10)", x.recover(10), -1);
        Check.due("4 recover(0)", x.recover(0), -2);
        Check.due("4 undo", x.undo(), -2);
    }

    private static void fringes() {
        MoireEncoder x = new MoireEncoder();
        Check.due("5 overlayPeriod", x.overlayPeriod(), 220);
        Check.due("5 numerator", x.fringePeriodNumerator(), 220);
        Check.due("5 denominator", x.fringePeriodDenominator(), 1);
        Check.due("5 brightness(0, 20)", x.brightness(0, 20), 9);
        Check.due("5 brightestStart(22)", x.brightestStart(22), 10);
        Check.due("5 setIndexGrating(20, 0)", x.setIndexGrating(20, 0), 22);
        Check.due("5 numerator of equal pitches", x.fringePeriodNumerator(), -4);
    }
}

/** Promises 14 to 26: what the encoder tells, and what it predicts. */
public final class ReadingsTest {
    public static void main(String[] args) {
        promise14Position();
        promise15And16CounterAndSlip();
        promise17And18MissesAndSamples();
        promise19MissRate();
        promise20MarkPosition();
        promise21ExpectedCount();
        promise22To24Events();
        promise25PredictSlip();
        promise25IsWhatMoveToDoes();
        promise26FastestSafeSpeed();
        promise26NotFound();
        promise25And26FirstSample();
        promise26IsWhatMoveToDoes();
        Check.finish();
    }

    private static void promise14Position() {
        MoireEncoder x = new MoireEncoder();
        Check.due("14 new", x.position(), 0);
        x.moveTo(9999, 98);
        Check.due("14 end", x.position(), 9999);
        x.moveTo(1, 97);
        Check.due("14 back", x.position(), 1);
    }

    private static void promise15And16CounterAndSlip() {
        MoireEncoder x = Check.encoder("p20;");
        x.moveTo(60, 15);
        Check.due("15 below 0", x.counter(), -4);
        Check.due("16 below 0", x.slip(), -16);
        x.moveTo(0, 5);
        Check.due("15 further down", x.counter(), -16);
        Check.due("16 at 0", x.slip(), -16);
        x.zeroSlip();
        x.moveTo(19, 1);
        Check.due("15 rounding down", x.counter(), 3);
        Check.due("16 rounding down", x.slip(), 0);
    }

    private static void promise17And18MissesAndSamples() {
        MoireEncoder x = Check.encoder("p20;d100,50;");
        x.moveTo(100, 10);
        Check.due("17 misses", x.misses(), 9);
        Check.due("18 samples", x.samples(), 10);
        x.moveTo(150, 10);
        // Unreadable up to 140; at 90 quadrant 2 was read last, 150 is in quadrant 2.
        Check.due("17 misses behind the dirt", x.misses(), 9);
        Check.due("18 unreadable samples", x.samples(), 15);
        x.zeroSlip();
        x.setMode(1);
        x.moveTo(160, 10);
        Check.due("17 since the configuration", x.misses(), 10);
        Check.due("18 since the configuration", x.samples(), 16);
    }

    private static void promise19MissRate() {
        MoireEncoder x = new MoireEncoder();
        Check.due("19 no samples", x.missRateBits(), -4);
        x.moveTo(0, 1);
        Check.due("19 still none", x.missRateBits(), -4);
        x.moveTo(5, 5);
        Check.due("19 0.0", x.missRateBits(), 0);
        x.moveTo(15, 10);
        Check.due("19 0.5", x.missRateBits(), 0x3f000000);
        x.moveTo(20, 5);
        Check.due("19 a third", x.missRateBits(), Float.floatToIntBits(1.0f / 3.0f));
        MoireEncoder y = Check.encoder("p20;");
        y.moveTo(10, 10);
        Check.due("19 1.0", y.missRateBits(), 0x3f800000);
        for (int n = 0; n < 120; n++) {
            y.moveTo(n % 2 == 0 ? 9999 : 0, 1 + n % 99);
            Check.due("19 rate " + n, y.missRateBits(),
                    Float.floatToIntBits((float) y.misses() / (float) y.samples()));
        }
    }

    private static void promise20MarkPosition() {
        MoireEncoder x = Check.encoder("p8;r0;r9;r99;r999;r9998;r9999;");
        int[] marks = {0, 9, 99, 999, 9998, 9999};
        for (int i = 0; i < marks.length; i++) {
            Check.due("20 mark " + i, x.markPosition(i), marks[i]);
        }
        Check.due("20 index 6", x.markPosition(6), -1);
        Check.due("20 index -1", x.markPosition(-1), -1);
        Check.due("20 index MIN", x.markPosition(Integer.MIN_VALUE), -1);
        Check.due("20 index MAX", x.markPosition(Integer.MAX_VALUE), -1);
        Check.type(x, "p8;r5;");
        x.configure();
        Check.due("20 the old marks are gone", x.markPosition(1), -1);
    }

    private static void promise21ExpectedCount() {
        MoireEncoder x = new MoireEncoder();
        Check.due("21 at 0", x.expectedCount(0), 0);
        Check.due("21 at 4", x.expectedCount(4), 0);
        Check.due("21 at 5", x.expectedCount(5), 1);
        Check.due("21 at 9999", x.expectedCount(9999), 1999);
        Check.due("21 at -1", x.expectedCount(-1), -1);
        Check.due("21 at 10000", x.expectedCount(10000), -1);
        Check.due("21 at MIN", x.expectedCount(Integer.MIN_VALUE), -1);
        Check.due("21 at MAX", x.expectedCount(Integer.MAX_VALUE), -1);
        x.setMode(1);
        Check.due("21 mode 1 at 19", x.expectedCount(19), 0);
        Check.due("21 mode 1 at 20", x.expectedCount(20), 1);
        x.setMode(2);
        Check.due("21 mode 2 at 10", x.expectedCount(10), 1);
        Check.due("21 pitch 12", Check.encoder("p12;").expectedCount(11), 3);
    }

    private static void promise22To24Events() {
        MoireEncoder x = Check.encoder("p20;r45;");
        Check.due("22 empty log", x.eventKind(0), -1);
        Check.due("23 empty log", x.eventPosition(0), -1);
        Check.due("24 empty log", x.eventCounter(0), Check.NONE);
        x.moveTo(60, 15);
        x.moveTo(70, 10);
        Check.due("22 newest is a miss", x.eventKind(0), MoireEncoder.MISS);
        Check.due("23 newest", x.eventPosition(0), 70);
        Check.due("24 newest, below 0", x.eventCounter(0), -4);
        Check.due("22 mark before it", x.eventKind(1), MoireEncoder.MARK);
        Check.due("23 mark", x.eventPosition(1), 45);
        Check.due("24 mark, below 0", x.eventCounter(1), -3);
        int[] none = {2, 8, -1, Integer.MIN_VALUE, Integer.MAX_VALUE};
        for (int index : none) {
            Check.due("22 eventKind(" + index + ")", x.eventKind(index), -1);
            Check.due("23 eventPosition(" + index + ")", x.eventPosition(index), -1);
            Check.due("24 eventCounter(" + index + ")", x.eventCounter(index), Check.NONE);
        }
        MoireEncoder y = Check.encoder("p20;r7;");
        y.moveTo(10, 4);
        Check.due("23 the sample's position, not the mark's", y.eventPosition(0), 8);
    }

    private static void promise25PredictSlip() {
        MoireEncoder x = new MoireEncoder();
        String before = Check.state(x);
        Check.due("25 over the dirt", x.predictSlip(1800, 4), -4);
        Check.due("25 safe", x.predictSlip(500, 4), 0);
        Check.due("25 too fast", x.predictSlip(100, 10), -20);
        Check.due("25 own position", x.predictSlip(0, 99), 0);
        Check.due("25 target -1", x.predictSlip(-1, 4), Check.NONE);
        Check.due("25 target 10000", x.predictSlip(10000, 4), Check.NONE);
        Check.due("25 speed 0", x.predictSlip(5, 0), Check.NONE);
        Check.due("25 speed 100", x.predictSlip(5, 100), Check.NONE);
        Check.due("25 extremes", x.predictSlip(Integer.MIN_VALUE, Integer.MAX_VALUE), Check.NONE);
        Check.due("25 nothing changed", Check.state(x), before);
        Check.due("25 no change to undo", x.undo(), -2);
    }

    private static void promise25IsWhatMoveToDoes() {
        MoireEncoder x = Check.encoder("p12;r50;r300;d100,40;d120,60;m2;");
        for (int n = 0; n < 100; n++) {
            int target = (n * 4801) % 10000;
            int speed = 1 + n * 7 % 99;
            long predicted = x.predictSlip(target, speed);
            x.moveTo(target, speed);
            Check.due("25 moveTo(" + target + ", " + speed + ")", x.slip(), predicted);
        }
    }

    private static void promise26FastestSafeSpeed() {
        MoireEncoder x = new MoireEncoder();
        String before = Check.state(x);
        Check.due("26 own position", x.fastestSafeSpeed(0), 99);
        Check.due("26 to 500", x.fastestSafeSpeed(500), 5);
        Check.due("26 within the first quadrant", x.fastestSafeSpeed(4), 99);
        Check.due("26 to the second quadrant", x.fastestSafeSpeed(9), 99);
        // To 10 by steps of 9: quadrants 0, 1, 2.
        Check.due("26 to the third quadrant", x.fastestSafeSpeed(10), 9);
        Check.due("26 target -1", x.fastestSafeSpeed(-1), -1);
        Check.due("26 target 10000", x.fastestSafeSpeed(10000), -1);
        Check.due("26 target MIN", x.fastestSafeSpeed(Integer.MIN_VALUE), -1);
        Check.due("26 nothing changed", Check.state(x), before);
        MoireEncoder y = Check.encoder("p80;");
        Check.due("26 to the end", y.fastestSafeSpeed(9999), 20);
        // The slip as it is now need not be 0.
        y.moveTo(40, 40);
        Check.due("26 a slip before", y.slip(), -2);
        Check.due("26 slip stays", y.fastestSafeSpeed(500), 20);
    }

    private static void promise26NotFound() {
        MoireEncoder x = new MoireEncoder();
        Check.due("26 dirt at the target", x.fastestSafeSpeed(660), -4);
        MoireEncoder y = Check.encoder("p20;d1,99;");
        Check.due("26 to 100 over dirt", y.fastestSafeSpeed(100), -4);
        Check.due("26 dirt within the quadrant", y.fastestSafeSpeed(4), 99);
        MoireEncoder z = Check.encoder("p8;d2,1;");
        // At speed 1 the samples at 2 are lost, but 3 reads the same quadrant.
        Check.due("26 a dirty place that costs nothing", z.fastestSafeSpeed(3), 99);
        Check.due("26 only slow speeds", z.fastestSafeSpeed(100), 1);
        MoireEncoder w = Check.encoder("p20;d5,1;");
        w.moveTo(5, 1);
        Check.due("26 the same count, but a late reading", w.fastestSafeSpeed(6), -4);
    }

    /** The head's own place is not read again, not even when it is no longer dirty. */
    private static void promise25And26FirstSample() {
        MoireEncoder x = Check.encoder("p20;d10,5;");
        x.moveTo(10, 5);
        x.removeDirt(0);
        Check.due("25 quadrant 1, then 3", x.predictSlip(15, 5), -2);
        Check.due("25 quadrant 1, 2, then 3", x.predictSlip(15, 4), 0);
        MoireEncoder y = Check.encoder("p20;m1;d15,1;");
        y.moveTo(5, 5);
        y.moveTo(15, 10);
        y.removeDirt(0);
        Check.due("26 quadrant 1, then 2", y.fastestSafeSpeed(14), 99);
    }

    private static void promise26IsWhatMoveToDoes() {
        int[] targets = {1, 5, 17, 333, 1000, 2400, 9999, 0, 660, 20, 40, 77, 150};
        MoireEncoder x = Check.encoder("p16;d200,5;d1500,3;d1502,9;d9000,2;m1;");
        for (int target : targets) {
            for (int start = 0; start < 2; start++) {
                searchByMoving(x, target);
                x.moveTo(target / 2 + start * 50, 3);
                // An encoder answers 512 calls: a new one for each search.
                x = Check.encoder("p16;d200,5;d1500,3;d1502,9;d9000,2;m" + (start + 1) + ";");
                x.moveTo(target * 7 % 1000, 3 + 5 * start);
            }
        }
    }

    private static void searchByMoving(MoireEncoder x, int target) {
        long slip = x.slip();
        int want = -4;
        for (int speed = 1; speed <= 99; speed++) {
            int missed = x.moveTo(target, speed);
            if (missed == 0 && x.slip() == slip) {
                want = speed;
            }
            x.undo();
        }
        Check.due("26 to " + target, x.fastestSafeSpeed(target), want);
    }
}

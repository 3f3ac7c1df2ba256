/** Promises 6 to 13: the calls that change the encoder, and undo. */
public final class ChangesTest {
    public static void main(String[] args) {
        promise06SamplesOfAMove();
        promise06CountsInEachMode();
        promise06Misses();
        promise06MissEvents();
        promise06Dirt();
        promise06Marks();
        promise06MarksFromAMark();
        promise06LogHoldsEight();
        promise06Arguments();
        promise07SetMode();
        promise08SetIndexGrating();
        promise09AddDirt();
        promise10RemoveDirt();
        promise11ZeroSlip();
        promise12Recover();
        promise12Backwards();
        promise12Tolerance();
        promise12Ambiguous();
        promise12Errors();
        promise12MissesBetweenMarks();
        promise12HugeCounters();
        promise13UndoEachChange();
        promise13SixChanges();
        promise13ErrorsAreNoChanges();
        Check.finish();
    }

    private static void promise06SamplesOfAMove() {
        MoireEncoder x = Check.encoder("p80;");
        Check.due("6 own position", x.moveTo(0, 1), 0);
        Check.due("6 no samples", x.samples(), 0);
        x.moveTo(10, 3);
        Check.due("6 3, 6, 9, 10", x.samples(), 4);
        Check.due("6 position", x.position(), 10);
        x.moveTo(1, 3);
        Check.due("6 7, 4, 1", x.samples(), 7);
        x.moveTo(0, 99);
        Check.due("6 one short step", x.samples(), 8);
        x.moveTo(9999, 1);
        Check.due("6 9999 more", x.samples(), 10007);
        x.moveTo(9900, 99);
        Check.due("6 exactly one step", x.samples(), 10008);
        x.moveTo(9800, 99);
        Check.due("6 one step and a rest", x.samples(), 10010);
    }

    private static void promise06CountsInEachMode() {
        // Quadrants of pitch 8 are two micrometres wide: boundaries at 2, 4, 6 and 8.
        int[] modes = {1, 2, 4};
        for (int mode : modes) {
            MoireEncoder x = Check.encoder("p8;m" + mode + ";");
            int counter = 0;
            for (int position = 1; position <= 17; position++) {
                x.moveTo(position, 1);
                counter += counts(position, mode) ? 1 : 0;
                Check.due("6 mode " + mode + " up to " + position, x.counter(), counter);
                Check.due("6 slip", x.slip(), 0);
            }
            for (int position = 16; position >= 0; position--) {
                x.moveTo(position, 1);
                counter -= counts(position + 1, mode) ? 1 : 0;
                Check.due("6 mode " + mode + " down to " + position, x.counter(), counter);
            }
            Check.due("6 no misses", x.misses(), 0);
        }
        MoireEncoder x = Check.encoder("p8;");
        // Three quadrants forwards look like one backwards: 0, 3, 2, 1, 0 at 0, 6, 12, 18, 24.
        Check.due("6 fast", x.moveTo(24, 6), 0);
        Check.due("6 counted backwards", x.counter(), -4);
        Check.due("6 whole pitches are not seen", x.moveTo(8, 8), 0);
        Check.due("6 counter stays", x.counter(), -4);
    }

    private static boolean counts(int position, int mode) {
        return position % (8 / mode) == 0;
    }

    private static void promise06Misses() {
        MoireEncoder x = Check.encoder("p8;");
        Check.due("6 0, 2 of 4", x.moveTo(4, 4), 1);
        Check.due("6 counter", x.counter(), 0);
        Check.due("6 misses of this move alone", x.moveTo(12, 4), 2);
        Check.due("6 misses in all", x.misses(), 3);
        Check.due("6 backwards", x.moveTo(0, 4), 3);
        // The new quadrant was kept at the miss: from 2 to 3 is one step.
        Check.due("6 miss", x.moveTo(4, 4), 1);
        Check.due("6 next", x.moveTo(6, 2), 0);
        Check.due("6 counter behind a miss", x.counter(), 1);
    }

    private static void promise06MissEvents() {
        MoireEncoder x = Check.encoder("p8;r9;");
        x.moveTo(8, 4);
        Check.due("6 one miss event", x.eventKind(0), 1);
        Check.due("6 at the first miss", x.eventPosition(0), 4);
        Check.due("6 no second", x.eventKind(1), -1);
        // The sample at 12 misses and passes the mark: no miss event behind a miss event.
        x.moveTo(12, 4);
        Check.due("6 mark", x.eventKind(0), 0);
        Check.due("6 miss below it", x.eventKind(1), 1);
        Check.due("6 only two", x.eventKind(2), -1);
        x.moveTo(20, 4);
        Check.due("6 miss behind a mark", x.eventKind(0), 1);
        Check.due("6 its place", x.eventPosition(0), 16);
        Check.due("6 mark below", x.eventKind(1), 0);
        Check.due("6 three", x.eventKind(3), -1);
        // Back over the mark: the miss at the sample comes before its mark.
        x.moveTo(24, 1);
        x.undo();
        x.moveTo(8, 12);
        Check.due("6 mark of the sample at 8", x.eventKind(0), 0);
        Check.due("6 no new miss", x.eventKind(1), 1);
        Check.due("6 the old miss", x.eventPosition(1), 16);
        x.moveTo(12, 4);
        Check.due("6 mark above the miss of the same sample", x.eventKind(0), 0);
        Check.due("6 miss of the same sample", x.eventKind(1), 1);
        Check.due("6 same place", x.eventPosition(1), 12);
        Check.due("6 place of the mark", x.eventPosition(0), 12);
    }

    private static void promise06Dirt() {
        MoireEncoder x = Check.encoder("p8;d4,3;d5,4;");
        // Readable are 0 to 3 and from 9 on; quadrant 1 was read last, 9 is in quadrant 0.
        x.moveTo(8, 1);
        Check.due("6 unreadable samples are counted", x.samples(), 8);
        Check.due("6 last quadrant stays", x.counter(), 1);
        x.moveTo(9, 1);
        Check.due("6 from 1 to 0", x.counter(), 0);
        Check.due("6 no miss", x.misses(), 0);
        x.moveTo(4, 5);
        Check.due("6 jump into the dirt", x.counter(), 0);
        x.moveTo(3, 1);
        Check.due("6 out of it", x.counter(), 1);
        MoireEncoder y = Check.encoder("p8;r6;d4,9;");
        y.moveTo(7, 1);
        Check.due("6 dirt hides no mark", y.eventKind(0), 0);
        Check.due("6 counter of the mark event", y.eventCounter(0), 1);
        MoireEncoder z = Check.encoder("p8;d0,1;");
        z.moveTo(4, 4);
        z.moveTo(0, 4);
        Check.due("6 dirt at 0", z.misses(), 1);
    }

    private static void promise06Marks() {
        MoireEncoder x = Check.encoder("p80;r3;r5;r6;r20;");
        x.moveTo(10, 10);
        Check.due("6 newest event", x.eventPosition(0), 10);
        Check.due("6 three events", x.eventKind(2), 0);
        Check.due("6 not four", x.eventKind(3), -1);
        x.moveTo(20, 10);
        Check.due("6 the end belongs to the step", x.eventPosition(0), 20);
        Check.due("6 four", x.eventKind(3), 0);
        x.moveTo(21, 10);
        Check.due("6 the begin does not", x.eventKind(4), -1);
        x.moveTo(20, 1);
        Check.due("6 backwards too", x.eventKind(4), 0);
        x.moveTo(19, 1);
        Check.due("6 not twice", x.eventKind(5), -1);
        Check.due("6 counter of the step", x.eventCounter(0), 1);
        MoireEncoder y = Check.encoder("p20;r5;");
        y.moveTo(5, 5);
        Check.due("6 the mark keeps the counter behind step 2", y.eventCounter(0), 1);
        MoireEncoder z = Check.encoder("p20;r0;r9999;");
        z.moveTo(1, 1);
        Check.due("6 mark at 0 is not passed", z.eventKind(0), -1);
        z.moveTo(0, 1);
        Check.due("6 mark at 0", z.eventPosition(0), 0);
        z.moveTo(9999, 99);
        Check.due("6 mark at 9999", z.eventPosition(0), 9999);
        Check.due("6 its kind", z.eventKind(0), 0);
    }

    private static void promise06MarksFromAMark() {
        MoireEncoder x = Check.encoder("p8;r8;r16;r24;");
        x.moveTo(30, 1);
        Check.due("6 in order: newest", x.eventPosition(0), 24);
        Check.due("6 in order: oldest", x.eventPosition(2), 8);
        x.moveTo(0, 1);
        Check.due("6 backwards: newest", x.eventPosition(0), 8);
        Check.due("6 backwards: counter", x.eventCounter(0), 4);
        Check.due("6 backwards: oldest", x.eventPosition(2), 24);
    }

    private static void promise06LogHoldsEight() {
        MoireEncoder x = Check.encoder("p8;r1;r2;r3;r4;r5;r6;");
        x.moveTo(7, 1);
        x.moveTo(4, 1);
        int[] places = {4, 5, 6, 6, 5, 4, 3, 2};
        for (int i = 0; i < 8; i++) {
            Check.due("6 event " + i, x.eventPosition(i), places[i]);
            Check.due("6 kind " + i, x.eventKind(i), 0);
            Check.due("6 counter " + i, x.eventCounter(i), places[i] / 2);
        }
        Check.due("6 no ninth", x.eventKind(8), -1);
    }

    private static void promise06Arguments() {
        MoireEncoder x = new MoireEncoder();
        x.moveTo(123, 4);
        String before = Check.state(x);
        Check.due("6 target -1", x.moveTo(-1, 1), -1);
        Check.due("6 target 10000", x.moveTo(10000, 1), -1);
        Check.due("6 speed 0", x.moveTo(1, 0), -1);
        Check.due("6 speed -1", x.moveTo(1, -1), -1);
        Check.due("6 speed 100", x.moveTo(1, 100), -1);
        Check.due("6 own position, speed 0", x.moveTo(123, 0), -1);
        Check.due("6 extremes", x.moveTo(Integer.MAX_VALUE, Integer.MIN_VALUE), -1);
        Check.due("6 nothing changed", Check.state(x), before);
        Check.due("6 no change to undo", x.undo(), 0);
    }

    private static void promise07SetMode() {
        MoireEncoder x = new MoireEncoder();
        x.moveTo(515, 4);
        Check.due("7 previous 4", x.setMode(2), 4);
        Check.due("7 counter in mode 2", x.counter(), 51);
        Check.due("7 log is empty", x.eventKind(0), -1);
        Check.due("7 previous 2", x.setMode(1), 2);
        Check.due("7 counter in mode 1", x.counter(), 25);
        Check.due("7 slip", x.slip(), 0);
        Check.due("7 previous 1", x.setMode(4), 1);
        Check.due("7 counter in mode 4", x.counter(), 103);
        Check.due("7 samples stay", x.samples(), 129);
        x.moveTo(399, 4);
        x.moveTo(601, 10);
        long misses = x.misses();
        Check.due("7 the present mode", x.setMode(4), 4);
        Check.due("7 empties the log too", x.eventKind(0), -1);
        Check.due("7 misses stay", x.misses(), misses);
        Check.due("7 position stays", x.position(), 601);
        int[] wrong = {0, 3, 5, 8, -1, -4, Integer.MIN_VALUE, Integer.MAX_VALUE};
        String before = Check.state(x);
        for (int mode : wrong) {
            Check.due("7 setMode(" + mode + ")", x.setMode(mode), -1);
        }
        Check.due("7 nothing changed", Check.state(x), before);
        lastQuadrantStays();
    }

    private static void lastQuadrantStays() {
        MoireEncoder x = Check.encoder("p20;d10,5;");
        x.moveTo(10, 5);
        x.setMode(4);
        // Quadrant 1 was read last, 15 is in quadrant 3: setMode has not read quadrant 2.
        Check.due("7 last quadrant stays", x.moveTo(15, 5), 1);
    }

    private static void promise08SetIndexGrating() {
        MoireEncoder x = new MoireEncoder();
        Check.due("8 previous 22", x.setIndexGrating(8, 0), 22);
        Check.due("8 previous 8", x.setIndexGrating(80, 79), 8);
        Check.due("8 overlay", x.overlayPeriod(), 80);
        // (c + 79) mod 80 is at least 40 for cell 0 and for cells 41 to 80.
        x.moveTo(10, 1);
        Check.due("8 offset", x.brightness(0, 2), 1);
        String before = Check.state(x);
        Check.due("8 pitch 7", x.setIndexGrating(7, 0), -1);
        Check.due("8 pitch 81", x.setIndexGrating(81, 0), -1);
        Check.due("8 offset -1", x.setIndexGrating(8, -1), -1);
        Check.due("8 offset 80", x.setIndexGrating(8, 80), -1);
        Check.due("8 extremes", x.setIndexGrating(Integer.MIN_VALUE, Integer.MAX_VALUE), -1);
        Check.due("8 nothing changed", Check.state(x), before);
        Check.due("8 odd pitch", x.setIndexGrating(11, 40), 80);
        Check.due("8 the rest stays", x.counter(), 2);
    }

    private static void promise09AddDirt() {
        MoireEncoder x = Check.encoder("p20;");
        Check.due("9 start -1", x.addDirt(-1, 1), -1);
        Check.due("9 start 10000", x.addDirt(10000, 1), -1);
        Check.due("9 length 0", x.addDirt(0, 0), -1);
        Check.due("9 length 100", x.addDirt(0, 100), -1);
        Check.due("9 extremes", x.addDirt(Integer.MAX_VALUE, Integer.MIN_VALUE), -1);
        Check.due("9 first", x.addDirt(5, 1), 1);
        Check.due("9 second", x.addDirt(9999, 99), 2);
        Check.due("9 third", x.addDirt(0, 2), 3);
        Check.due("9 fourth", x.addDirt(5, 3), 4);
        Check.due("9 fifth", x.addDirt(6, 4), -3);
        Check.due("9 the range comes first", x.addDirt(6, 0), -1);
        x.moveTo(7, 1);
        Check.due("9 dirt from 5 to 7", x.counter(), 0);
        x.moveTo(8, 1);
        Check.due("9 clean at 8", x.counter(), 1);
        Check.due("9 behind the others", x.removeDirt(3), 3);
        Check.due("9 room again", x.addDirt(7, 7), 4);
        MoireEncoder y = new MoireEncoder();
        Check.due("9 behind the stated span", y.addDirt(1, 2), 2);
        Check.due("9 stated span", y.removeDirt(0), 9);
    }

    private static void promise10RemoveDirt() {
        MoireEncoder x = Check.encoder("p20;d100,1;d200,2;d300,3;d400,4;");
        Check.due("10 index -1", x.removeDirt(-1), -1);
        Check.due("10 index 4", x.removeDirt(4), -1);
        Check.due("10 index MIN", x.removeDirt(Integer.MIN_VALUE), -1);
        Check.due("10 index MAX", x.removeDirt(Integer.MAX_VALUE), -1);
        Check.due("10 index 1", x.removeDirt(1), 2);
        Check.due("10 index 3 is gone", x.removeDirt(3), -1);
        Check.due("10 moved down", x.removeDirt(1), 3);
        Check.due("10 moved down twice", x.removeDirt(1), 4);
        Check.due("10 the first stays", x.removeDirt(0), 1);
        Check.due("10 empty", x.removeDirt(0), -1);
        MoireEncoder y = Check.encoder("p20;d1,50;d5,1;");
        y.removeDirt(0);
        y.moveTo(5, 1);
        Check.due("10 the other span is still dirty", y.counter(), 0);
        y.moveTo(6, 1);
        Check.due("10 the removed span is clean", y.counter(), 1);
    }

    private static void promise11ZeroSlip() {
        MoireEncoder x = new MoireEncoder();
        Check.due("11 nothing to change", x.zeroSlip(), 0);
        x.moveTo(700, 4);
        Check.due("11 slip", x.slip(), -4);
        Check.due("11 counter changes", x.zeroSlip(), 1);
        Check.due("11 counter", x.counter(), 140);
        Check.due("11 slip is 0", x.slip(), 0);
        Check.due("11 log stays", x.eventCounter(0), 80);
        Check.due("11 again", x.zeroSlip(), 0);
        Check.due("11 all four are changes", x.undo(), 3);
    }

    private static void promise12Recover() {
        MoireEncoder x = new MoireEncoder();
        x.moveTo(1100, 4);
        Check.due("12 slip", x.slip(), -4);
        // 80 and 196 differ by 116; the pairs expect 120 and 148.
        Check.due("12 tolerance 3", x.recover(3), -4);
        Check.due("12 tolerance 4", x.recover(4), 1);
        Check.due("12 counter grows by 200 - 196", x.counter(), 220);
        Check.due("12 the log stays", x.eventCounter(0), 196);
        Check.due("12 again", x.recover(4), 1);
        Check.due("12 grows again", x.counter(), 224);
    }

    private static void promise12Backwards() {
        MoireEncoder x = Check.encoder("p20;r100;r300;r600;");
        x.moveTo(700, 4);
        x.addDirt(640, 20);
        x.moveTo(200, 4);
        Check.due("12 slip backwards", x.slip(), 4);
        Check.due("12 600, then 300", x.recover(0), 1);
        Check.due("12 recovered", x.slip(), 0);
        x.moveTo(0, 4);
        Check.due("12 300, then 100: the counters differ by 40 and 4", x.recover(4), 0);
        Check.due("12 turned at 300", x.moveTo(310, 4), 0);
        MoireEncoder y = Check.encoder("p20;r100;r300;");
        y.moveTo(110, 4);
        y.moveTo(90, 4);
        Check.due("12 equal counters", y.recover(9), -4);
    }

    private static void promise12Tolerance() {
        MoireEncoder x = Check.encoder("p20;r100;r104;");
        x.moveTo(104, 1);
        // Expected difference 0 (20 and 20), equal counters: the mark x(i).
        Check.due("12 equal counters belong to x(i)", x.recover(0), 0);
        Check.due("12 tolerance -1", x.recover(-1), -1);
        Check.due("12 tolerance 10", x.recover(10), -1);
        Check.due("12 tolerance 9", x.recover(9), 0);
        Check.due("12 MIN", x.recover(Integer.MIN_VALUE), -1);
        Check.due("12 MAX", x.recover(Integer.MAX_VALUE), -1);
        MoireEncoder y = Check.encoder("p20;m1;r100;r300;");
        y.moveTo(350, 1);
        y.addDirt(280, 20);
        y.moveTo(50, 1);
        // In mode 1 the pair expects 10; the dirt is on the whole pitch before 300.
        Check.due("12 mode 1", y.recover(1), 0);
    }

    private static void promise12Ambiguous() {
        MoireEncoder x = Check.encoder("p20;r100;r200;r305;");
        x.moveTo(350, 1);
        Check.due("12 20 and 21, tolerance 0", x.recover(0), 2);
        Check.due("12 20 and 21, tolerance 1", x.recover(1), -5);
        String before = Check.state(x);
        Check.due("12 again", x.recover(1), -5);
        Check.due("12 nothing changed", Check.state(x), before);
        MoireEncoder y = Check.encoder("p20;r100;r200;r300;r400;");
        y.moveTo(450, 1);
        Check.due("12 three pairs alike", y.recover(0), -5);
    }

    private static void promise12Errors() {
        MoireEncoder x = new MoireEncoder();
        Check.due("12 the range comes first", x.recover(10), -1);
        Check.due("12 no mark event", x.recover(0), -2);
        x.moveTo(500, 4);
        Check.due("12 one mark event", x.recover(9), -2);
        x.moveTo(390, 4);
        Check.due("12 two of the same mark", x.recover(9), -4);
        MoireEncoder y = Check.encoder("p20;r100;");
        y.moveTo(150, 1);
        y.moveTo(50, 1);
        Check.due("12 no pairs", y.recover(9), -4);
        Check.due("12 no change", y.undo(), 1);
        MoireEncoder z = Check.encoder("p8;");
        z.moveTo(4, 4);
        Check.due("12 a miss event is no mark event", z.recover(9), -2);
        noPairWithoutTwoMarks();
    }

    /** Equal counters, and marks whose expected count is 0: position 0 is no mark. */
    private static void noPairWithoutTwoMarks() {
        MoireEncoder x = Check.encoder("p80;r10;");
        x.moveTo(15, 1);
        x.moveTo(5, 1);
        Check.due("12 one mark at count 0", x.recover(0), -4);
        MoireEncoder y = Check.encoder("p20;r4;r400;");
        y.moveTo(10, 1);
        y.moveTo(0, 1);
        Check.due("12 two marks, one at count 0", y.recover(0), -4);
    }

    private static void promise12MissesBetweenMarks() {
        MoireEncoder x = Check.encoder("p8;r40;r100;r200;");
        x.moveTo(102, 1);
        x.moveTo(106, 4);
        Check.due("12 a miss is newest", x.eventKind(0), 1);
        Check.due("12 the marks below it count", x.recover(0), 1);
        x.moveTo(202, 1);
        Check.due("12 a miss between the marks", x.eventKind(1), 1);
        Check.due("12 100 and 200 with one miss", x.recover(2), 2);
        Check.due("12 slip", x.slip(), 0);
    }

    private static void promise12HugeCounters() {
        MoireEncoder x = Check.encoder("p20;r100;r300;d10,10;");
        x.moveTo(400, 5);
        long slip = x.slip();
        Check.due("12 a slip to begin with", slip, -4);
        int target = 0;
        // Each time the same recovery three times over turns the slip round and doubles it.
        for (int round = 0; round < 70; round++) {
            for (int n = 0; n < 3; n++) {
                Check.due("12 round " + round, x.recover(0), target == 0 ? 1 : 0);
            }
            slip *= -2;
            Check.due("12 slip of round " + round, x.slip(), slip);
            if (round == 0) {
                x.removeDirt(0);
            }
            x.moveTo(target, 5);
            Check.due("12 slip goes along", x.slip(), slip);
            target = 400 - target;
        }
    }

    private static void promise13UndoEachChange() {
        for (int kind = 0; kind < 8; kind++) {
            MoireEncoder x = Check.encoder("p20;i22,3;r400;r1000;r1740;d660,9;");
            x.moveTo(1400, 7);
            x.moveTo(399, 4);
            String before = Check.state(x);
            change(x, kind);
            Check.due("13 undo of kind " + kind, x.undo(), 2);
            Check.due("13 state behind kind " + kind, Check.state(x), before);
            Check.due("13 dirt behind kind " + kind, x.removeDirt(0), 9);
            Check.due("13 no more dirt", x.removeDirt(0), -1);
            Check.due("13 undo", x.undo(), 2);
            Check.due("13 mode behind kind " + kind, x.setMode(4), 4);
            Check.due("13 undo", x.undo(), 2);
            Check.due("13 the text stays", x.clearText(), 34);
        }
        lastQuadrantIsBack();
    }

    private static void change(MoireEncoder x, int kind) {
        switch (kind) {
            case 0 -> Check.due("13 moveTo", x.moveTo(9999, 10) >= 0 ? 1 : 0, 1);
            case 1 -> Check.due("13 setMode", x.setMode(1), 4);
            case 2 -> Check.due("13 setIndexGrating", x.setIndexGrating(55, 55), 22);
            case 3 -> Check.due("13 addDirt", x.addDirt(0, 99), 2);
            case 4 -> Check.due("13 removeDirt", x.removeDirt(0), 9);
            case 5 -> Check.due("13 zeroSlip", x.zeroSlip() >= 0 ? 1 : 0, 1);
            case 6 -> Check.due("13 recover", x.recover(4), 0);
            default -> Check.due("13 own position", x.moveTo(399, 99), 0);
        }
    }

    private static void lastQuadrantIsBack() {
        MoireEncoder x = Check.encoder("p20;");
        x.moveTo(10, 5);
        x.undo();
        Check.due("13 last quadrant is 0 again", x.moveTo(5, 5), 0);
        Check.due("13 counter", x.counter(), 1);
    }

    private static void promise13SixChanges() {
        MoireEncoder x = new MoireEncoder();
        Check.due("13 nothing to undo", x.undo(), -2);
        for (int n = 1; n <= 9; n++) {
            x.moveTo(n * 10, 1);
        }
        for (int left = 5; left >= 0; left--) {
            Check.due("13 undo", x.undo(), left);
            Check.due("13 position", x.position(), (left + 3) * 10);
            Check.due("13 samples", x.samples(), (left + 3) * 10);
        }
        Check.due("13 no seventh", x.undo(), -2);
        Check.due("13 still there", x.position(), 30);
        x.moveTo(50, 1);
        x.setMode(4);
        Check.due("13 undo, then change, then undo", x.undo(), 1);
        x.moveTo(60, 1);
        Check.due("13 undo", x.undo(), 1);
        Check.due("13 position behind it", x.position(), 50);
        Check.due("13 undo", x.undo(), 0);
        Check.due("13 position at last", x.position(), 30);
        x.zeroSlip();
        x.setMode(4);
        x.moveTo(x.position(), 1);
        x.setIndexGrating(22, 3);
        Check.due("13 changes that leave all as it was", x.undo(), 3);
        Check.type(x, "p20;");
        x.configure();
        Check.due("13 nothing behind configure", x.undo(), -2);
    }

    private static void promise13ErrorsAreNoChanges() {
        MoireEncoder x = new MoireEncoder();
        x.moveTo(77, 4);
        x.moveTo(-1, 4);
        x.setMode(3);
        x.setIndexGrating(7, 0);
        x.addDirt(0, 0);
        x.removeDirt(1);
        x.recover(0);
        x.recover(10);
        x.configure();
        x.predictSlip(500, 4);
        x.fastestSafeSpeed(500);
        Check.due("13 one change alone", x.undo(), 0);
        Check.due("13 position", x.position(), 0);
        for (int i = 0; i < 3; i++) {
            x.addDirt(i, 1);
        }
        x.addDirt(5, 1);
        Check.due("13 a refused span is no change", x.undo(), 2);
    }
}

/** The boundary cases of a move: its samples, dirt, the decoder, marks and the log. */
public final class MoveEdgeTest {
    public static void main(String[] args) {
        targetNearerThanASample();
        samplesStandWhereTheyAreDue();
        ownPositionHasNoSamples();
        quadrantBoundaries();
        dirtFromItsFirstToItsLastPlace();
        dirtBehindTheEndOfTheScale();
        unreadableSamplesAreCounted();
        lastQuadrantStaysInDirt();
        everyPairOfQuadrants();
        missGrowsByOne();
        missEventInAnEmptyLog();
        missEventBehindAMark();
        noMissEventBehindAMiss();
        noMissEventBehindAMissInAnyLog();
        newQuadrantIsKeptInEveryCase();
        marksOfAForwardStep();
        marksOfABackwardStep();
        marksAtTheEndsOfTheScale();
        marksInTheOrderOfPassage();
        manyMarksInOneSample();
        dirtHidesNoMark();
        markKeepsTheCounterBehindStep2();
        missComesBeforeTheMarkOfItsSample();
        logFromEmptyToFull();
        missDrivesOutTheOldest();
        manyMarksIntoAnAlmostFullLog();
        expectedCountRoundsDown();
        counterAndSlipBelowZero();
        promise06MissesOfThisMoveAlone();
        promise17And18SinceConfigured();
        promise19Rates();
        the512thCall();
        Check.finish();
    }

    /** "when the target is nearer than that, it moves to the target and takes the last sample there" */
    private static void targetNearerThanASample() {
        for (int speed = 1; speed <= 99; speed++) {
            for (int whole = 0; whole <= 2; whole++) {
                for (int n = -1; n <= 1; n++) {
                    int distance = Math.max(0, whole * speed + n);
                    int samples = (distance + speed - 1) / speed;
                    MoireEncoder x = Check.encoder("p8;");
                    x.moveTo(distance, speed);
                    Check.due("samples of " + distance + " by " + speed, x.samples(), samples);
                    Check.due("target", x.position(), distance);
                    x.moveTo(0, speed);
                    Check.due("samples back", x.samples(), 2 * samples);
                    Check.due("back", x.position(), 0);
                }
            }
        }
    }

    /** "a sample each time it has moved by speed micrometres towards the target" */
    private static void samplesStandWhereTheyAreDue() {
        int[] speeds = {1, 2, 3, 4, 5, 6, 7, 8, 99};
        for (int speed : speeds) {
            MoireEncoder x = Check.encoder("p80;r1;r2;r3;r4;r5;r6;");
            x.moveTo(7, speed);
            for (int mark = 1; mark <= 6; mark++) {
                int sample = Math.min(7, (mark + speed - 1) / speed * speed);
                Check.due("mark " + mark + " by " + speed, x.eventPosition(6 - mark), sample);
            }
            x.setMode(4);
            x.moveTo(0, speed);
            for (int mark = 1; mark <= 6; mark++) {
                int sample = Math.max(0, 7 - (7 - mark + speed - 1) / speed * speed);
                Check.due("mark " + mark + " back by " + speed, x.eventPosition(mark - 1), sample);
            }
        }
    }

    /** "A move to the head's own position has no samples." */
    private static void ownPositionHasNoSamples() {
        int[] places = {0, 1, 400, 660, 9999};
        for (int place : places) {
            MoireEncoder x = new MoireEncoder();
            x.moveTo(place, 4);
            String before = Check.state(x);
            for (int speed = 1; speed <= 99; speed += 49) {
                Check.due("no misses", x.moveTo(place, speed), 0);
                Check.due("at " + place + " by " + speed, Check.state(x), before);
            }
        }
    }

    /** "The quadrant of a position x is 4 * (x mod P) / P" */
    private static void quadrantBoundaries() {
        for (int p = 8; p <= 80; p += 4) {
            MoireEncoder x = Check.encoder("p" + p + ";");
            for (int place = 1; place <= 2 * p; place++) {
                Check.due("no miss", x.moveTo(place, 1), 0);
                Check.due("counter at " + place + ", pitch " + p, x.counter(), 4 * place / p);
            }
        }
        // Up to the end of the scale the boundaries stay where they are.
        MoireEncoder x = Check.encoder("p76;");
        x.moveTo(9974, 19);
        for (int place = 9975; place <= 9999; place++) {
            x.moveTo(place, 1);
            Check.due("counter at " + place, x.counter(), 4 * place / 76);
        }
    }

    /** "If the position of the sample lies in a dirty span of the scale, the sample is unreadable" */
    private static void dirtFromItsFirstToItsLastPlace() {
        int[][] spans = {{10, 1}, {10, 2}, {10, 99}, {1, 99}, {100, 50}, {9900, 99}, {9901, 98}};
        for (int[] span : spans) {
            for (int place = span[0] - 1; place <= span[0] + span[1]; place++) {
                boolean dirty = place >= span[0] && place < span[0] + span[1];
                if (place >= 1 && (place <= span[0] + 1 || place >= span[0] + span[1] - 2)) {
                    Check.due("dirt " + span[0] + "," + span[1] + " at " + place, readsAt(place, span), !dirty);
                }
            }
        }
    }

    /** Whether a single sample there is read: the scale's quadrant is made to be another one. */
    private static boolean readsAt(int place, int[] span) {
        MoireEncoder x = Check.encoder("p8;");
        int start = place >= 3 ? place - 3 : place + 3;
        x.moveTo(start, 1);
        x.addDirt(span[0], span[1]);
        long counter = x.counter();
        int missed = x.moveTo(place, 3);
        return missed == 1 || x.counter() != counter;
    }

    private static void dirtBehindTheEndOfTheScale() {
        MoireEncoder x = Check.encoder("p8;d9999,99;");
        Check.due("up to the dirt", x.moveTo(9998, 1), 0);
        Check.due("read", x.counter(), 4999);
        x.moveTo(9996, 1);
        x.moveTo(9998, 1);
        Check.due("9998 is clean", x.counter(), 4999);
        x.moveTo(9996, 1);
        x.moveTo(9999, 3);
        Check.due("9999 is dirty", x.counter(), 4998);
        MoireEncoder y = Check.encoder("p8;d0,1;");
        y.moveTo(2, 1);
        y.moveTo(0, 2);
        Check.due("0 is dirty", y.counter(), 1);
        y.moveTo(1, 1);
        Check.due("1 is clean", y.counter(), 0);
    }

    /** "An unreadable sample is counted as a sample like any other." */
    private static void unreadableSamplesAreCounted() {
        MoireEncoder x = Check.encoder("p8;d1,50;");
        x.moveTo(50, 1);
        Check.due("50 unreadable ones", x.samples(), 50);
        Check.due("nothing counted", x.counter(), 0);
        Check.due("nothing missed", x.misses(), 0);
        x.moveTo(51, 1);
        Check.due("a readable one", x.samples(), 51);
        Check.due("from 0 to 1", x.counter(), 1);
        Check.due("rate 0.0", x.missRateBits(), 0);
    }

    /** "the quadrant read last stays as it is" */
    private static void lastQuadrantStaysInDirt() {
        int[] counts = {0, 1, 0, -1};
        for (int last = 0; last < 4; last++) {
            for (int next = 0; next < 4; next++) {
                MoireEncoder x = Check.encoder("p80;");
                x.moveTo(20 * last + 10, 1);
                x.addDirt(90, 60);
                x.moveTo(100, 90);
                x.moveTo(149, 1);
                long before = x.counter();
                int turn = (next - last + 4) % 4;
                Check.due("missed", x.moveTo(170 + 20 * next, 99), turn == 2 ? 1 : 0);
                Check.due("from " + last + " to " + next, x.counter() - before, counts[turn]);
            }
        }
    }

    /** Every pair of quadrants in every mode, whichever way the head itself goes. */
    private static void everyPairOfQuadrants() {
        int[] modes = {1, 2, 4};
        for (int mode : modes) {
            for (int last = 0; last < 4; last++) {
                for (int place = 0; place < 12; place++) {
                    int next = place % 4;
                    MoireEncoder x = Check.encoder("p32;m" + mode + ";");
                    x.moveTo(32 + 8 * last, 1);
                    long before = x.counter();
                    Check.due("counter before", before, x.expectedCount(32 + 8 * last));
                    int missed = x.moveTo(8 * place + 7, 99);
                    String what = "mode " + mode + " from " + last + " to " + next;
                    Check.due(what, x.counter() - before, counted(last, next, mode));
                    Check.due(what + " missed", missed, Math.abs(next - last) == 2 ? 1 : 0);
                }
            }
        }
    }

    /** "In mode 4 every boundary counts. In mode 2 only ... 1 and 2 and ... 3 and 0 ..." */
    private static int counted(int last, int next, int mode) {
        String pair = last + "" + next;
        String forwards = mode == 4 ? "01 12 23 30" : mode == 2 ? "12 30" : "30";
        String backwards = mode == 4 ? "10 21 32 03" : mode == 2 ? "21 03" : "03";
        return forwards.contains(pair) ? 1 : backwards.contains(pair) ? -1 : 0;
    }

    /** "the number of misses grows by 1 and the counter stays as it is" */
    private static void missGrowsByOne() {
        for (int last = 0; last < 4; last++) {
            MoireEncoder x = Check.encoder("p80;");
            x.moveTo(20 * last, 1);
            long before = x.counter();
            Check.due("forwards", x.moveTo(20 * last + 40, 40), 1);
            Check.due("misses", x.misses(), 1);
            Check.due("counter", x.counter(), before);
            Check.due("backwards", x.moveTo(20 * last, 40), 1);
            Check.due("misses", x.misses(), 2);
            Check.due("counter", x.counter(), before);
            Check.due("one short of it", x.moveTo(20 * last + 39, 39), 0);
            Check.due("misses", x.misses(), 2);
        }
    }

    /** "a miss event is logged too, but only if the log is empty ..." */
    private static void missEventInAnEmptyLog() {
        MoireEncoder x = Check.encoder("p80;");
        x.moveTo(20, 20);
        Check.due("no event without a miss", x.eventKind(0), -1);
        x.moveTo(60, 40);
        event(x, 0, 1, 60, 1);
        Check.due("one event", x.eventKind(1), -1);
        x.setMode(4);
        Check.due("empty again", x.eventKind(0), -1);
        x.moveTo(100, 40);
        event(x, 0, 1, 100, 3);
        Check.due("one event", x.eventKind(1), -1);
    }

    /** "... or its newest event is a mark event" */
    private static void missEventBehindAMark() {
        MoireEncoder x = Check.encoder("p80;r5;");
        x.moveTo(10, 10);
        event(x, 0, 0, 10, 0);
        x.moveTo(50, 40);
        event(x, 0, 1, 50, 0);
        event(x, 1, 0, 10, 0);
        Check.due("two events", x.eventKind(2), -1);
    }

    private static void noMissEventBehindAMiss() {
        MoireEncoder x = Check.encoder("p80;r5;");
        x.moveTo(4, 4);
        Check.due("three misses", x.moveTo(4 + 120, 40), 3);
        // The first sample passes the mark behind its miss; the second miss is logged, not the third.
        event(x, 0, 1, 84, 0);
        event(x, 1, 0, 44, 0);
        event(x, 2, 1, 44, 0);
        Check.due("three events", x.eventKind(3), -1);
        Check.due("a miss more", x.moveTo(84, 40), 1);
        Check.due("misses are counted all the same", x.misses(), 4);
        event(x, 0, 1, 84, 0);
        Check.due("still three events", x.eventKind(3), -1);
        x.undo();
        Check.due("as before", x.misses(), 3);
    }

    /** However many events the log holds: a miss is the newest of one event, of two, and so on. */
    private static void noMissEventBehindAMissInAnyLog() {
        for (int marks = 0; marks <= 8; marks++) {
            MoireEncoder x = Check.encoder("p80;r1;");
            for (int n = 0; n < marks; n++) {
                x.moveTo(n % 2 == 0 ? 2 : 0, 2);
            }
            // Away from the mark first, so that none of the missing samples passes it.
            x.moveTo(x.position() == 0 ? 0 : 10, 1);
            boolean passes = x.position() == 0;
            Check.due("a miss", x.moveTo(x.position() + 40, 40), 1);
            Check.due("newest", x.eventKind(0), passes ? 0 : 1);
            Check.due("a second miss", x.moveTo(x.position() + 40, 40), 1);
            int place = x.position() - (passes ? 0 : 40);
            event(x, 0, 1, place, 0);
            Check.due("a third miss", x.moveTo(x.position() + 40, 40), 1);
            event(x, 0, 1, place, 0);
            int size = Math.min(8, marks + (passes ? 3 : 1));
            Check.due("held", x.eventKind(size - 1) >= 0, true);
            Check.due("no more", x.eventKind(size), -1);
        }
        MoireEncoder y = Check.encoder("p80;");
        Check.due("two misses and no mark", y.moveTo(80, 40), 2);
        event(y, 0, 1, 40, 0);
        Check.due("one event", y.eventKind(1), -1);
    }

    /** "In every case the new quadrant becomes the quadrant read last." */
    private static void newQuadrantIsKeptInEveryCase() {
        for (int last = 0; last < 4; last++) {
            for (int next = 0; next < 4; next++) {
                MoireEncoder x = Check.encoder("p80;m1;");
                x.moveTo(20 * last + 5, 1);
                x.moveTo(20 * next + 6, 99);
                x.setMode(4);
                long before = x.counter();
                Check.due("no miss", x.moveTo(20 * next + 20, 99), 0);
                Check.due("one behind " + next, x.counter() - before, 1);
            }
        }
    }

    private static void event(MoireEncoder x, int index, int kind, int position, long counter) {
        Check.due("kind of event " + index, x.eventKind(index), kind);
        Check.due("position of event " + index, x.eventPosition(index), position);
        Check.due("counter of event " + index, x.eventCounter(index), counter);
    }

    private static int eventsOfStep(int from, int to) {
        MoireEncoder x = Check.encoder("p80;r50;");
        x.moveTo(from, 99);
        x.setMode(4);
        x.moveTo(to, 99);
        int marks = 0;
        for (int i = 0; i < 8; i++) {
            marks += x.eventKind(i) == 0 ? 1 : 0;
        }
        return marks;
    }

    /** "If a is below b, these are the marks greater than a and at most b" */
    private static void marksOfAForwardStep() {
        Check.due("48 to 49", eventsOfStep(48, 49), 0);
        Check.due("48 to 50", eventsOfStep(48, 50), 1);
        Check.due("49 to 50", eventsOfStep(49, 50), 1);
        Check.due("49 to 51", eventsOfStep(49, 51), 1);
        Check.due("50 to 51", eventsOfStep(50, 51), 0);
        Check.due("51 to 52", eventsOfStep(51, 52), 0);
        Check.due("50 to 50", eventsOfStep(50, 50), 0);
    }

    /** "if a is above b, these are the marks less than a and at least b" */
    private static void marksOfABackwardStep() {
        Check.due("52 to 51", eventsOfStep(52, 51), 0);
        Check.due("52 to 50", eventsOfStep(52, 50), 1);
        Check.due("51 to 50", eventsOfStep(51, 50), 1);
        Check.due("51 to 49", eventsOfStep(51, 49), 1);
        Check.due("50 to 49", eventsOfStep(50, 49), 0);
        Check.due("49 to 48", eventsOfStep(49, 48), 0);
    }

    private static void marksAtTheEndsOfTheScale() {
        MoireEncoder x = Check.encoder("p80;r0;r9999;");
        x.moveTo(9998, 20);
        Check.due("0 is not passed from 0", x.eventKind(0), -1);
        x.moveTo(9999, 1);
        Check.due("9999 is passed", x.eventPosition(0), 9999);
        x.moveTo(9998, 1);
        Check.due("9999 is not passed from 9999", x.eventKind(1), -1);
        x.moveTo(1, 20);
        Check.due("0 is not yet passed", x.eventKind(1), -1);
        x.moveTo(0, 1);
        Check.due("0 is passed", x.eventPosition(0), 0);
        Check.due("two events", x.eventKind(1), 0);
        Check.due("no third", x.eventKind(2), -1);
    }

    /** "in the order in which the head passed them" */
    private static void marksInTheOrderOfPassage() {
        MoireEncoder x = Check.encoder("p8;r10;r11;r20;r30;");
        x.moveTo(40, 2);
        int[] up = {30, 20, 12, 10};
        for (int i = 0; i < 4; i++) {
            event(x, i, 0, up[i], up[i] / 2);
        }
        x.moveTo(0, 2);
        int[] down = {10, 10, 20, 30};
        for (int i = 0; i < 4; i++) {
            event(x, i, 0, down[i], down[i] / 2);
            event(x, i + 4, 0, up[i], up[i] / 2);
        }
    }

    private static void manyMarksInOneSample() {
        MoireEncoder x = Check.encoder("p40;r1;r2;r3;r50;r98;r99;");
        x.moveTo(99, 99);
        for (int i = 0; i < 6; i++) {
            event(x, i, 0, 99, 1);
        }
        Check.due("six events", x.eventKind(6), -1);
        x.moveTo(1, 99);
        for (int i = 0; i < 5; i++) {
            event(x, i, 0, 1, 0);
        }
        event(x, 5, 0, 99, 1);
        event(x, 7, 0, 99, 1);
        Check.due("no ninth", x.eventKind(8), -1);
    }

    /** "Dirt does not hide reference marks." */
    private static void dirtHidesNoMark() {
        MoireEncoder x = Check.encoder("p8;r10;r14;r17;d10,8;");
        x.moveTo(30, 1);
        Check.due("first place of the dirt", x.eventPosition(2), 10);
        Check.due("within the dirt", x.eventPosition(1), 14);
        Check.due("last place of the dirt", x.eventPosition(0), 17);
        Check.due("the counter stood still", x.eventCounter(0), x.eventCounter(2));
        x.setMode(4);
        x.moveTo(0, 1);
        Check.due("backwards", x.eventPosition(0), 10);
        Check.due("backwards", x.eventPosition(2), 17);
    }

    /** "a mark event therefore keeps the value behind step 2 of its sample" */
    private static void markKeepsTheCounterBehindStep2() {
        MoireEncoder x = Check.encoder("p8;r2;");
        x.moveTo(2, 2);
        event(x, 0, 0, 2, 1);
        x.moveTo(4, 2);
        x.moveTo(2, 2);
        event(x, 0, 0, 2, 1);
        x.moveTo(3, 1);
        x.moveTo(1, 2);
        event(x, 0, 0, 1, 0);
        x.moveTo(9, 1);
        // What happens later leaves the event as it is.
        x.zeroSlip();
        x.addDirt(0, 99);
        event(x, 0, 0, 2, 1);
        event(x, 1, 0, 1, 0);
    }

    private static void missComesBeforeTheMarkOfItsSample() {
        MoireEncoder x = Check.encoder("p8;r3;");
        x.moveTo(4, 4);
        event(x, 0, 0, 4, 0);
        event(x, 1, 1, 4, 0);
        Check.due("two events", x.eventKind(2), -1);
        x.moveTo(0, 4);
        event(x, 0, 0, 0, 0);
        event(x, 1, 1, 0, 0);
        event(x, 2, 0, 4, 0);
        event(x, 3, 1, 4, 0);
    }

    /** "The log holds the newest 8 events." */
    private static void logFromEmptyToFull() {
        MoireEncoder x = Check.encoder("p8;r9;");
        x.moveTo(8, 1);
        for (int passed = 0; passed <= 20; passed++) {
            for (int i = 0; i <= 9; i++) {
                boolean held = i < Math.min(8, passed);
                int place = (passed - i) % 2 == 1 ? 10 : 8;
                Check.due("kind " + i + " of " + passed, x.eventKind(i), held ? 0 : -1);
                Check.due("place " + i + " of " + passed, x.eventPosition(i), held ? place : -1);
            }
            x.moveTo(passed % 2 == 0 ? 10 : 8, 2);
        }
    }

    private static void missDrivesOutTheOldest() {
        MoireEncoder x = Check.encoder("p80;r1;r2;r3;r4;r5;r6;");
        x.moveTo(7, 1);
        x.moveTo(5, 1);
        for (int i = 0; i < 8; i++) {
            Check.due("eight marks", x.eventKind(i), 0);
        }
        Check.due("the oldest", x.eventPosition(7), 1);
        Check.due("a miss", x.moveTo(45, 40), 1);
        // The sample misses, logs that, and passes mark 6.
        event(x, 0, 0, 45, 0);
        event(x, 1, 1, 45, 0);
        event(x, 2, 0, 5, 0);
        Check.due("two have gone", x.eventPosition(7), 3);
        Check.due("no ninth", x.eventKind(8), -1);
        x.moveTo(125, 40);
        event(x, 0, 1, 85, 0);
        event(x, 7, 0, 4, 0);
        Check.due("a logged miss has driven out one more", x.eventPosition(7), 4);
    }

    private static void manyMarksIntoAnAlmostFullLog() {
        for (int held = 0; held <= 8; held++) {
            MoireEncoder x = Check.encoder("p80;r1;r11;r12;r13;r14;r15;");
            for (int n = 0; n < held; n++) {
                x.moveTo(n % 2 == 0 ? 2 : 0, 2);
            }
            int start = x.position();
            x.moveTo(18, 18);
            int added = start == 0 ? 6 : 5;
            int size = Math.min(8, held + added);
            for (int i = 0; i <= 8; i++) {
                int place = i < added ? 18 : (held - 1 - (i - added)) % 2 == 0 ? 2 : 0;
                Check.due(held + " events, then " + added + ": " + i, x.eventPosition(i), i < size ? place : -1);
            }
        }
    }

    /** "The expected count of a position x is mode * x / P." "All divisions ... round down" */
    private static void expectedCountRoundsDown() {
        int[] pitches = {8, 12, 20, 44, 76, 80};
        int[] modes = {1, 2, 4};
        int[] places = {0, 1, 2, 3, 4, 7, 8, 9, 11, 12, 18, 19, 20, 21, 75, 76, 79, 80, 9998, 9999};
        for (int p : pitches) {
            for (int mode : modes) {
                MoireEncoder x = Check.encoder("p" + p + ";m" + mode + ";");
                for (int place : places) {
                    long due = 0;
                    while ((due + 1) * p <= mode * place) {
                        due++;
                    }
                    Check.due("21 p" + p + " m" + mode + " at " + place, x.expectedCount(place), due);
                    x.moveTo(place, p / 4);
                    Check.due("15 counter", x.counter(), due);
                    Check.due("16 slip", x.slip(), 0);
                }
            }
        }
    }

    /** "The counter, and with it the slip, may be negative." */
    private static void counterAndSlipBelowZero() {
        MoireEncoder x = Check.encoder("p8;r12;");
        x.moveTo(12, 6);
        Check.due("counter", x.counter(), -2);
        Check.due("slip", x.slip(), -8);
        Check.due("event", x.eventCounter(0), -2);
        Check.due("forecast", x.predictSlip(0, 1), -8);
        x.moveTo(0, 1);
        Check.due("counter", x.counter(), -8);
        Check.due("slip", x.slip(), -8);
        Check.due("-1 is no error", x.moveTo(14, 1), 0);
        Check.due("counter -1", x.counter(), -1);
        Check.due("slip", x.slip(), -8);
    }

    /** "Returns the number of transitions missed in this move" */
    private static void promise06MissesOfThisMoveAlone() {
        MoireEncoder x = Check.encoder("p8;");
        for (int n = 1; n <= 5; n++) {
            x.moveTo(0, 1);
            Check.due("6 " + n + " misses", x.moveTo(4 * n, 4), n);
        }
        Check.due("17 all of them", x.misses(), 15);
        Check.due("6 none", x.moveTo(0, 2), 0);
        Check.due("6 the most: every sample", x.moveTo(9996, 4), 2499);
    }

    /** "since the encoder was configured": only configure sets the numbers to 0. */
    private static void promise17And18SinceConfigured() {
        MoireEncoder x = new MoireEncoder();
        Check.type(x, "p20;r5;r50;");
        x.moveTo(100, 10);
        x.setMode(1);
        x.zeroSlip();
        x.setIndexGrating(8, 0);
        x.addDirt(5, 5);
        x.removeDirt(0);
        Check.due("17 misses", x.misses(), 10);
        Check.due("18 samples", x.samples(), 10);
        Check.due("5 configure", x.configure(), 2);
        Check.due("17 none", x.misses(), 0);
        Check.due("18 none", x.samples(), 0);
        x.moveTo(20, 10);
        Check.due("17 two", x.misses(), 2);
        Check.due("18 two", x.samples(), 2);
        x.append('x');
        Check.due("5 refused", x.configure(), -2);
        Check.due("17 still two", x.misses(), 2);
        Check.due("18 still two", x.samples(), 2);
    }

    /** "NOT_FOUND if there are no samples" */
    private static void promise19Rates() {
        MoireEncoder x = Check.encoder("p8;d2,1;");
        Check.due("19 none", x.missRateBits(), -4);
        x.moveTo(0, 1);
        x.setMode(4);
        x.zeroSlip();
        Check.due("19 none behind changes without samples", x.missRateBits(), -4);
        x.moveTo(1, 1);
        Check.due("19 one sample", x.missRateBits(), 0);
        x.undo();
        Check.due("19 none when undone", x.missRateBits(), -4);
        x.moveTo(2, 2);
        Check.due("19 an unreadable one", x.missRateBits(), 0);
        x.moveTo(4, 2);
        Check.due("19 a half", x.missRateBits(), Float.floatToIntBits(0.5f));
        x.configure();
        Check.due("19 none behind configure", x.missRateBits(), -4);
        MoireEncoder y = Check.encoder("p8;");
        y.moveTo(4, 4);
        Check.due("19 all", y.missRateBits(), Float.floatToIntBits(1.0f));
        for (int n = 0; n < 200; n++) {
            y.moveTo(n % 2 == 0 ? 9999 : 0, 1);
        }
        int samples = 1 + 9995 + 199 * 9999;
        Check.due("19 very few", y.missRateBits(), Float.floatToIntBits(1.0f / (float) samples));
        Check.due("19 misses", y.misses(), 1);
        Check.due("19 samples", y.samples(), samples);
    }

    /** "An object is used for at most 512 calls": the last of them answers like the first. */
    private static void the512thCall() {
        MoireEncoder x = new MoireEncoder();
        for (int n = 1; n <= 511; n++) {
            Check.due("a miss at the dirt, call " + n, x.moveTo(n % 2 == 0 ? 0 : 9999, 1), 1);
        }
        Check.due("the 512th call", x.samples(), 511 * 9999);
        MoireEncoder y = new MoireEncoder();
        for (int n = 1; n <= 511; n++) {
            y.moveTo(n % 2, 1);
        }
        Check.due("the 512th call", y.undo(), 5);
    }
}

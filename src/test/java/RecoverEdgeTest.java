/** The boundary cases of recovering: promise 12 and what the description says of it. */
public final class RecoverEdgeTest {
    /** Whole pitches of 20 are lost in dirt, one count each in mode 1; the pair expects 70. */
    private static final String PAIR = "p20;m1;r100;r1500;";
    private static final int[] PLACES = {0, 200, 600, 1200, 2000, 3000};
    private static final String LADDER = "p20;m1;r0;r200;r600;r1200;r2000;r3000;";

    public static void main(String[] args) {
        tooFewCounts();
        tooManyCounts();
        tooFewCountsBackwards();
        everyPairForwards();
        everyPairBackwards();
        equalCounters();
        exactlyOnePair();
        noPairWithFewerThanTwoMarks();
        fewerThanTwoMarkEvents();
        missEventsAreNoMarkEvents();
        marksThatFellOutOfTheLog();
        emptiedLog();
        counterGrowsByTheDifference();
        logStays();
        expectedDifferenceInEachMode();
        negativeCounters();
        refusedThenAllowed();
        Check.finish();
    }

    /** Makes spans that cost so many counts between 200 and 1000. */
    private static void soil(MoireEncoder x, int counts) {
        int left = counts;
        for (int start = 200; left > 0; start += 200) {
            int pitches = Math.min(4, left);
            x.addDirt(start, 20 * pitches);
            left -= pitches;
        }
    }

    private static void wash(MoireEncoder x) {
        for (int i = 3; i >= 0; i--) {
            x.removeDirt(i);
        }
    }

    /** "at most the tolerance": |c2 - c1| below the expected difference. */
    private static void tooFewCounts() {
        for (int lost = 0; lost <= 12; lost++) {
            for (int tolerance = 0; tolerance <= 9; tolerance++) {
                MoireEncoder x = Check.encoder(PAIR);
                soil(x, lost);
                x.moveTo(1600, 5);
                Check.due("lost", x.slip(), -lost);
                boolean matches = lost <= tolerance;
                Check.due(lost + " lost, tolerance " + tolerance, x.recover(tolerance), matches ? 1 : -4);
                Check.due("slip behind it", x.slip(), matches ? 0 : -lost);
            }
        }
    }

    /** "at most the tolerance": |c2 - c1| above the expected difference. */
    private static void tooManyCounts() {
        for (int more = 0; more <= 12; more++) {
            for (int tolerance = 0; tolerance <= 9; tolerance++) {
                MoireEncoder x = Check.encoder(PAIR);
                x.moveTo(1400, 5);
                soil(x, more);
                x.moveTo(150, 5);
                wash(x);
                x.moveTo(1600, 5);
                Check.due("gained", x.slip(), more);
                boolean matches = more <= tolerance;
                Check.due(more + " gained, tolerance " + tolerance, x.recover(tolerance), matches ? 1 : -4);
                Check.due("slip behind it", x.slip(), matches ? 0 : more);
            }
        }
    }

    /** The same with c2 below c1: the newest event belongs to x(i). */
    private static void tooFewCountsBackwards() {
        for (int lost = 0; lost <= 11; lost++) {
            for (int tolerance = 0; tolerance <= 9; tolerance++) {
                MoireEncoder x = Check.encoder(PAIR);
                x.moveTo(1600, 5);
                soil(x, lost);
                x.moveTo(50, 5);
                Check.due("slip", x.slip(), lost);
                boolean matches = lost <= tolerance;
                Check.due(lost + " lost, tolerance " + tolerance, x.recover(tolerance), matches ? 0 : -4);
                Check.due("slip behind it", x.slip(), matches ? 0 : lost);
            }
        }
    }

    /** "belongs to x(i + 1) if c2 is greater than c1" */
    private static void everyPairForwards() {
        for (int i = 0; i + 1 < PLACES.length; i++) {
            for (int tolerance = 0; tolerance <= 9; tolerance++) {
                MoireEncoder x = Check.encoder(LADDER);
                // Turned round on mark 0, so that it is passed.
                x.moveTo(5, 5);
                x.moveTo(0, 5);
                x.moveTo(PLACES[i + 1], 5);
                Check.due("pair " + i + " forwards, " + tolerance, x.recover(tolerance), i + 1);
                Check.due("no slip", x.slip(), 0);
            }
        }
    }

    /** "and to x(i) otherwise" */
    private static void everyPairBackwards() {
        for (int i = 0; i + 1 < PLACES.length; i++) {
            MoireEncoder x = Check.encoder(LADDER);
            x.moveTo(3100, 5);
            x.moveTo(PLACES[i], 5);
            Check.due("pair " + i + " backwards", x.recover(0), i);
            Check.due("no slip", x.slip(), 0);
            Check.due("pair " + i + " backwards, 9", x.recover(9), i);
        }
    }

    /** Neither greater nor less: x(i). */
    private static void equalCounters() {
        MoireEncoder x = Check.encoder("p20;m1;r45;r55;");
        x.moveTo(58, 1);
        Check.due("forwards", x.recover(0), 0);
        x.moveTo(42, 1);
        Check.due("backwards", x.recover(0), 0);
        MoireEncoder y = Check.encoder("p20;r100;r104;r200;");
        y.moveTo(104, 1);
        y.addDirt(50, 40);
        Check.due("one pair expects 0, the other 20", y.recover(9), 0);
        // Within one sample both marks have the same counter.
        MoireEncoder z = Check.encoder("p80;r10;r15;r90;");
        z.moveTo(18, 18);
        Check.due("in one sample", z.recover(0), 0);
    }

    /** "If exactly one pair matches"; "AMBIGUOUS if more than one pair matches" */
    private static void exactlyOnePair() {
        // The pairs expect 10, 20, 30, 40 and 50; one count is lost between 200 and 600.
        MoireEncoder x = Check.encoder(LADDER);
        x.addDirt(300, 20);
        x.moveTo(650, 5);
        Check.due("19 with tolerance 0", x.recover(0), -4);
        Check.due("19 with tolerance 8", x.recover(8), 2);
        x.undo();
        Check.due("19 with tolerance 9", x.recover(9), -5);
        MoireEncoder y = Check.encoder(LADDER);
        y.moveTo(650, 5);
        Check.due("20 with tolerance 9", y.recover(9), 2);
        // The first and the last pair are pairs too.
        MoireEncoder z = Check.encoder("p20;m1;r20;r220;r620;r1220;r2020;r2220;");
        z.moveTo(250, 5);
        Check.due("first and last pair expect 10", z.recover(0), -5);
        MoireEncoder w = Check.encoder("p20;m1;r20;r220;r420;r620;r820;r1020;");
        w.moveTo(1100, 5);
        Check.due("five pairs", w.recover(0), -5);
    }

    /** "with fewer than two reference marks there are no pairs" */
    private static void noPairWithFewerThanTwoMarks() {
        MoireEncoder x = Check.encoder("p80;r10;");
        x.moveTo(15, 1);
        x.moveTo(5, 1);
        for (int tolerance = 0; tolerance <= 9; tolerance++) {
            Check.due("one mark, tolerance " + tolerance, x.recover(tolerance), -4);
        }
        MoireEncoder y = Check.encoder("p80;r10;r15;");
        y.moveTo(20, 1);
        Check.due("two marks", y.recover(0), 0);
        MoireEncoder z = Check.encoder("p80;");
        z.moveTo(200, 1);
        Check.due("no mark, no event", z.recover(9), -2);
        // Marks of an earlier setup make no pair.
        Check.type(y, "p80;r10;");
        Check.due("configure", y.configure(), 1);
        y.moveTo(15, 1);
        y.moveTo(5, 1);
        Check.due("one mark again", y.recover(9), -4);
    }

    /** "NOT_POSSIBLE if the log has fewer than two mark events" */
    private static void fewerThanTwoMarkEvents() {
        MoireEncoder x = Check.encoder(PAIR);
        Check.due("no event", x.recover(9), -2);
        x.moveTo(99, 1);
        Check.due("before the first mark", x.recover(9), -2);
        x.moveTo(100, 1);
        Check.due("one mark event", x.recover(9), -2);
        x.moveTo(1499, 1);
        Check.due("before the second mark", x.recover(9), -2);
        x.moveTo(1500, 1);
        Check.due("two mark events", x.recover(9), 1);
        x.undo();
        x.undo();
        Check.due("one again", x.recover(9), -2);
    }

    private static void missEventsAreNoMarkEvents() {
        MoireEncoder x = Check.encoder("p20;m1;r100;r300;");
        x.moveTo(20, 10);
        Check.due("a miss", x.eventKind(0), 1);
        Check.due("a miss alone", x.recover(9), -2);
        x.moveTo(105, 1);
        Check.due("a miss and a mark", x.recover(9), -2);
        x.moveTo(115, 10);
        Check.due("a miss, a mark and a miss", x.eventKind(2), 1);
        Check.due("a miss, a mark and a miss", x.recover(9), -2);
        x.moveTo(310, 1);
        x.moveTo(330, 10);
        Check.due("the newest is a miss", x.eventKind(0), 1);
        Check.due("marks below and between misses", x.eventKind(1) + x.eventKind(3), 0);
        Check.due("their counters count", x.recover(1), 1);
    }

    /** Only what the log still holds counts. */
    private static void marksThatFellOutOfTheLog() {
        MoireEncoder x = Check.encoder("p8;r40;r80;");
        x.moveTo(100, 1);
        Check.due("both", x.recover(0), 1);
        // Back and forth over mark 80: the event of mark 40 sinks, the two newest are alike.
        x.moveTo(70, 1);
        for (int n = 0; n < 10; n++) {
            x.moveTo(n % 2 == 0 ? 90 : 70, 1);
            Check.due("mark 80 twice", x.recover(9), -4);
        }
        x.moveTo(30, 1);
        Check.due("80, then 40", x.recover(0), 0);
    }

    private static void emptiedLog() {
        MoireEncoder x = Check.encoder(PAIR);
        x.moveTo(1600, 5);
        x.setMode(1);
        Check.due("setMode has emptied the log", x.recover(9), -2);
        x.moveTo(1400, 5);
        Check.due("one mark event", x.recover(9), -2);
        x.moveTo(50, 5);
        Check.due("two mark events", x.recover(0), 0);
        Check.type(x, PAIR);
        x.configure();
        Check.due("configure has emptied the log", x.recover(9), -2);
    }

    /** "the counter then grows by the expected count of that mark minus c2" */
    private static void counterGrowsByTheDifference() {
        MoireEncoder x = Check.encoder(PAIR);
        soil(x, 3);
        x.moveTo(1600, 5);
        Check.due("counter", x.counter(), 77);
        // Behind the mark more is lost: the recovery gives back only what was lost before it.
        x.addDirt(1640, 40);
        x.moveTo(1800, 5);
        Check.due("counter", x.counter(), 85);
        Check.due("recover", x.recover(3), 1);
        Check.due("grows by 3", x.counter(), 88);
        Check.due("slip", x.slip(), -2);
        x.zeroSlip();
        Check.due("recover again", x.recover(9), 1);
        Check.due("grows by 3 again", x.slip(), 3);
        // It shrinks if the counter was ahead.
        MoireEncoder y = Check.encoder(PAIR);
        y.moveTo(1600, 5);
        soil(y, 2);
        y.moveTo(50, 5);
        Check.due("ahead", y.counter(), 4);
        Check.due("recover", y.recover(2), 0);
        Check.due("shrinks by 2", y.counter(), 2);
    }

    /** "The log stays as it is." */
    private static void logStays() {
        MoireEncoder x = Check.encoder(PAIR);
        soil(x, 3);
        x.moveTo(1600, 5);
        Check.due("recover", x.recover(3), 1);
        Check.due("newest kind", x.eventKind(0), 0);
        Check.due("newest place", x.eventPosition(0), 1500);
        Check.due("newest counter", x.eventCounter(0), 72);
        Check.due("older place", x.eventPosition(1), 100);
        Check.due("older counter", x.eventCounter(1), 5);
        Check.due("no third", x.eventKind(2), -1);
    }

    /** The expected difference of counts that were rounded down, not of the rounded distance. */
    private static void expectedDifferenceInEachMode() {
        int[] modes = {1, 2, 4};
        for (int mode : modes) {
            for (int first = 100; first < 120; first++) {
                int second = first + 209;
                MoireEncoder x = Check.encoder("p20;m" + mode + ";r" + first + ";r" + second + ";");
                int due = x.expectedCount(second) - x.expectedCount(first);
                x.moveTo(400, 1);
                Check.due("mode " + mode + " from " + first, x.eventCounter(0) - x.eventCounter(1), due);
                Check.due("mode " + mode + " from " + first, x.recover(0), 1);
                x.moveTo(0, 1);
                Check.due("mode " + mode + " to " + first, x.recover(0), 0);
            }
        }
        // A mode set later has other expected differences, and an empty log.
        MoireEncoder x = Check.encoder("p20;m4;r100;r300;r700;");
        x.moveTo(350, 1);
        x.setMode(2);
        x.moveTo(800, 1);
        Check.due("one mark event in mode 2", x.recover(9), -2);
        x.moveTo(250, 1);
        Check.due("20 in mode 2", x.recover(0), 1);
    }

    private static void negativeCounters() {
        // Steps of 15 count one quadrant backwards for three forwards.
        MoireEncoder x = Check.encoder("p20;r615;r1200;");
        x.moveTo(600, 15);
        Check.due("far below", x.counter(), -40);
        x.moveTo(1300, 1);
        Check.due("c1", x.eventCounter(1), -37);
        Check.due("117 above it", x.eventCounter(0), 80);
        Check.due("recover", x.recover(0), 1);
        Check.due("no slip", x.slip(), 0);
        // Counting down while the head goes up: the newest event is taken for the lower mark.
        MoireEncoder y = Check.encoder("p20;r600;r615;r630;");
        y.moveTo(600, 15);
        y.moveTo(620, 15);
        Check.due("c1", y.eventCounter(1), -40);
        Check.due("c2", y.eventCounter(0), -41);
        Check.due("2 away from both pairs", y.recover(1), -4);
        Check.due("both pairs", y.recover(2), -5);
        MoireEncoder z = Check.encoder("p20;r600;r615;");
        z.moveTo(600, 15);
        z.moveTo(620, 15);
        Check.due("c2 is less than c1", z.recover(2), 0);
        Check.due("grows by 120 + 41", z.counter(), 121);
    }

    private static void refusedThenAllowed() {
        MoireEncoder x = Check.encoder(PAIR);
        soil(x, 4);
        x.moveTo(1600, 5);
        Check.due("not found", x.recover(3), -4);
        Check.due("invalid", x.recover(10), -1);
        Check.due("found", x.recover(4), 1);
        Check.due("a change", x.undo(), 2);
        Check.due("slip is back", x.slip(), -4);
    }
}

/** The boundary cases of the forecasts and the fringes: promises 20 and 25 to 33. */
public final class FringeEdgeTest {
    public static void main(String[] args) {
        promise20FromNoneToSix();
        promise25OwnPosition();
        promise25EndsOfTheRanges();
        promise25KeepsTheDecoder();
        promise25And26NoSampleAtTheBegin();
        promise26OwnPosition();
        promise26GreatestSpeed();
        promise26LeastSpeed();
        promise26MissWithoutSlip();
        promise26SlipWithoutMiss();
        promise26SlipAsItIsNow();
        promise26NoSuchSpeed();
        promise26EndsOfTheScale();
        scaleIsDarkBelowHalfItsPitch();
        indexGratingIsDarkBelowHalfItsPitch();
        scaleGoesOnBehindItsEnd();
        promise27FirstAndLastCells();
        promise27NoneAndAll();
        promise28LeastOfEqualCells();
        promise28FirstAndLastCells();
        promise28NoBrightCell();
        promise29SmallestAndGreatest();
        promise30And31EqualPitches();
        promise30And31LowestTerms();
        promise32EqualPitches();
        promise32BothSides();
        promise33EndsOfTheRanges();
        Check.finish();
    }

    /** "INVALID_ARGUMENT if there is no such reference mark" */
    private static void promise20FromNoneToSix() {
        StringBuilder marks = new StringBuilder();
        for (int count = 0; count <= 6; count++) {
            MoireEncoder x = Check.encoder("p8;" + marks);
            for (int i = 0; i <= 7; i++) {
                Check.due("20 mark " + i + " of " + count, x.markPosition(i), i < count ? 1999 * i + 4 : -1);
            }
            Check.due("20 mark -1 of " + count, x.markPosition(-1), -1);
            marks.append('r').append(1999 * count + 4).append(';');
        }
    }

    private static void promise25OwnPosition() {
        int[] places = {0, 660, 664, 9999};
        for (int place : places) {
            MoireEncoder x = new MoireEncoder();
            x.moveTo(place, 6);
            Check.due("25 own place, least speed", x.predictSlip(place, 1), x.slip());
            Check.due("25 own place, greatest speed", x.predictSlip(place, 99), x.slip());
        }
    }

    private static void promise25EndsOfTheRanges() {
        int[] starts = {0, 1, 5000, 9998, 9999};
        int[] targets = {0, 1, 9998, 9999};
        int[] speeds = {1, 2, 98, 99};
        for (int start : starts) {
            MoireEncoder x = Check.encoder("p12;d0,1;d9999,1;d5000,50;m2;");
            x.moveTo(start, 3);
            for (int target : targets) {
                for (int speed : speeds) {
                    long predicted = x.predictSlip(target, speed);
                    x.moveTo(target, speed);
                    Check.due("25 from " + start + " to " + target + " by " + speed, x.slip(), predicted);
                    x.undo();
                }
            }
        }
    }

    /** A move takes no sample where it begins, though the dirt there may have gone. */
    private static void promise25And26NoSampleAtTheBegin() {
        MoireEncoder x = Check.encoder("p20;d10,5;");
        x.moveTo(10, 5);
        x.removeDirt(0);
        // Quadrant 1 was read last, the head stands in quadrant 2.
        Check.due("25 from 1 to 3", x.predictSlip(15, 5), -2);
        Check.due("25 at its own place", x.predictSlip(10, 5), -1);
        Check.due("26 from 1 to 0 in one step, or from 1 to 3", x.fastestSafeSpeed(20), search(x, 20));
        MoireEncoder y = Check.encoder("p20;m1;d15,1;");
        y.moveTo(5, 5);
        y.moveTo(15, 10);
        y.removeDirt(0);
        Check.due("26 from 1 to 2, not by way of 3", y.fastestSafeSpeed(14), 99);
    }

    /** "without making it" */
    private static void promise25KeepsTheDecoder() {
        MoireEncoder x = Check.encoder("p20;r5;");
        x.moveTo(4, 1);
        Check.due("25 too fast", x.predictSlip(19, 15), -4);
        Check.due("25 place", x.position(), 4);
        Check.due("25 counter", x.counter(), 0);
        Check.due("25 misses", x.misses(), 0);
        Check.due("25 samples", x.samples(), 4);
        Check.due("25 log", x.eventKind(0), -1);
        Check.due("25 the quadrant read last", x.moveTo(5, 1), 0);
        Check.due("25 counter", x.counter(), 1);
    }

    /** "99 if target is the head's own position" */
    private static void promise26OwnPosition() {
        int[] places = {0, 1, 660, 668, 9999};
        for (int place : places) {
            MoireEncoder x = new MoireEncoder();
            x.moveTo(place, 7);
            Check.due("26 at " + place, x.fastestSafeSpeed(place), 99);
        }
    }

    /** "the greatest speed from 1 to 99" */
    private static void promise26GreatestSpeed() {
        MoireEncoder x = Check.encoder("p80;");
        // From 0 to 39 one sample reads quadrant 1 with each speed from 39 on.
        Check.due("26 one sample", x.fastestSafeSpeed(39), 99);
        Check.due("26 two quadrants", x.fastestSafeSpeed(40), 39);
        // From 61, steps of 24 read all quadrants; steps of 25 end with one from 136 to 160.
        MoireEncoder y = Check.encoder("p80;m1;");
        y.moveTo(61, 1);
        Check.due("26 the rest of the way counts too", y.fastestSafeSpeed(160), 24);
        // From 28 to 127 one step of 99 stays in quadrant 3 and would lose counts.
        MoireEncoder z = Check.encoder("p32;m1;");
        z.moveTo(28, 1);
        Check.due("26 99 loses counts", z.predictSlip(127, 99), -3);
        Check.due("26 99 is not safe", z.fastestSafeSpeed(127), search(z, 127));
        // From 10 to 109 only steps of 99 miss the dirt; from quadrant 0 to 1 they count a whole pitch less.
        MoireEncoder w = Check.encoder("p80;m1;d80,29;");
        w.moveTo(10, 1);
        Check.due("26 one step of 99 loses a count", w.predictSlip(109, 99), -1);
        Check.due("26 no safe step", w.fastestSafeSpeed(109), search(w, 109));
    }

    private static void promise26LeastSpeed() {
        MoireEncoder x = Check.encoder("p8;d2,1;");
        // Only at 3 quadrant 1 can be read, and 4 is in quadrant 2: steps of 3 and of 1 stop at both.
        Check.due("26 to 4", x.fastestSafeSpeed(4), 3);
        MoireEncoder y = Check.encoder("p8;d2,1;d5,1;d6,1;");
        Check.due("26 speed 1 is the only one", y.fastestSafeSpeed(8), 1);
        MoireEncoder z = Check.encoder("p8;d2,1;d4,1;d7,1;");
        Check.due("26 as moving tells", z.fastestSafeSpeed(9), search(z, 9));
    }

    /** What moving with every speed tells. */
    private static int search(MoireEncoder x, int target) {
        long slip = x.slip();
        int best = -4;
        for (int speed = 1; speed <= 99; speed++) {
            int missed = x.moveTo(target, speed);
            best = missed == 0 && x.slip() == slip ? speed : best;
            x.undo();
        }
        return best;
    }

    /** "would miss no transition" */
    private static void promise26MissWithoutSlip() {
        MoireEncoder x = Check.encoder("p80;m1;");
        Check.due("26 no slip by 40", x.predictSlip(40, 40), 0);
        Check.due("26 but a miss", x.moveTo(40, 40), 1);
        x.undo();
        Check.due("26 39 reads quadrant 1 before", x.fastestSafeSpeed(40), 39);
    }

    /** "and would leave the slip as it is now" */
    private static void promise26SlipWithoutMiss() {
        MoireEncoder x = Check.encoder("p20;");
        Check.due("26 no miss by 20", x.moveTo(80, 20), 0);
        Check.due("26 but a slip", x.slip(), -16);
        x.undo();
        Check.due("26 no miss by 15", x.moveTo(60, 15), 0);
        x.undo();
        Check.due("26 to 80", x.fastestSafeSpeed(80), 5);
        Check.due("26 to 80, by moving", search(x, 80), 5);
    }

    private static void promise26SlipAsItIsNow() {
        MoireEncoder x = Check.encoder("p20;");
        int fresh = x.fastestSafeSpeed(300);
        x.moveTo(60, 15);
        x.moveTo(0, 5);
        Check.due("26 a slip", x.slip(), -16);
        Check.due("26 the same with a slip", x.fastestSafeSpeed(300), fresh);
        // A move that would take the slip back to 0 is not safe.
        MoireEncoder y = Check.encoder("p80;d40,20;");
        y.moveTo(40, 1);
        Check.due("26 a slip", y.slip(), -1);
        Check.due("26 it would be gone", y.predictSlip(39, 1), 0);
        Check.due("26 not safe", y.fastestSafeSpeed(39), -4);
        Check.due("26 within the dirt", y.fastestSafeSpeed(59), 99);
    }

    /** "NOT_FOUND if there is no such speed" */
    private static void promise26NoSuchSpeed() {
        int[] targets = {100, 120, 139, 140, 200};
        for (int target : targets) {
            MoireEncoder x = Check.encoder("p20;d100,40;");
            x.moveTo(99, 1);
            Check.due("26 over dirt to " + target, x.fastestSafeSpeed(target), search(x, target));
        }
        MoireEncoder x = Check.encoder("p20;d100,40;");
        x.moveTo(99, 1);
        Check.due("26 into the dirt", x.fastestSafeSpeed(100), -4);
        Check.due("26 through the dirt", x.fastestSafeSpeed(200), -4);
        Check.due("26 before the dirt", x.fastestSafeSpeed(95), 99);
        // Head and target have the same count, but quadrant 0 was read last: each speed changes the slip.
        MoireEncoder y = Check.encoder("p20;d5,1;");
        y.moveTo(5, 1);
        Check.due("26 the same count", y.expectedCount(6), y.expectedCount(5));
        Check.due("26 a late reading", y.fastestSafeSpeed(6), -4);
    }

    private static void promise26EndsOfTheScale() {
        MoireEncoder x = Check.encoder("p80;");
        Check.due("26 from 0 to 9999", x.fastestSafeSpeed(9999), 20);
        x.moveTo(9999, 1);
        Check.due("26 from 9999 to 0", x.fastestSafeSpeed(0), 20);
        Check.due("26 from 9999 to 9998", x.fastestSafeSpeed(9998), 99);
    }

    /** Whether the scale is clear at the head: an index grating that is clear at cell 0 shows it. */
    private static int clearAt(MoireEncoder x, int place) {
        x.moveTo(place, 99);
        return x.brightness(0, 1);
    }

    /** "The scale is dark at a position x if x mod P is less than P / 2, and clear otherwise." */
    private static void scaleIsDarkBelowHalfItsPitch() {
        for (int p = 8; p <= 80; p += 4) {
            MoireEncoder x = Check.encoder("p" + p + ";i8,4;");
            Check.due("first place", clearAt(x, 0), 0);
            Check.due("last dark place", clearAt(x, p / 2 - 1), 0);
            Check.due("first clear place", clearAt(x, p / 2), 1);
            Check.due("last clear place", clearAt(x, p - 1), 1);
            Check.due("next pitch", clearAt(x, p), 0);
            Check.due("next pitch", clearAt(x, p + p / 2 - 1), 0);
            Check.due("next pitch", clearAt(x, p + p / 2), 1);
            Check.due("at the end", clearAt(x, 9999), 9999 % p < p / 2 ? 0 : 1);
        }
    }

    /** "dark at cell c if (c + D) mod Q is less than Q / 2": an odd Q is rounded down. */
    private static void indexGratingIsDarkBelowHalfItsPitch() {
        for (int q = 8; q <= 80; q++) {
            MoireEncoder x = Check.encoder("p80;");
            x.moveTo(40, 1);
            for (int offset = 0; offset <= 79; offset++) {
                x.setIndexGrating(q, offset);
                Check.due("q " + q + " d " + offset, x.brightness(0, 1), offset % q < q / 2 ? 0 : 1);
                Check.due("q " + q + " d " + offset, x.brightness(39, 1), (39 + offset) % q < q / 2 ? 0 : 1);
            }
        }
    }

    /** "The scale goes on beyond position 9999." */
    private static void scaleGoesOnBehindItsEnd() {
        MoireEncoder x = Check.encoder("p80;i8,4;");
        x.moveTo(9999, 99);
        // 9999 is 79 behind a whole pitch: cell 0 is clear, cells 1 to 40 are dark, 41 to 80 clear.
        Check.due("cell 0", x.brightness(0, 1), 1);
        Check.due("cells 1 to 40", x.brightness(1, 40), 0);
        Check.due("cells 41 to 80", x.brightness(41, 40), 20);
        Check.due("the last cells", x.brightness(999, 200), byHand(9999, 999, 200, 80, 8, 4));
        Check.due("brightest", x.brightestStart(4), 48);
    }

    private static int byHand(int head, int start, int width, int p, int q, int d) {
        int count = 0;
        for (int cell = start; cell < start + width; cell++) {
            boolean dark = (head + cell) % p < p / 2 || (cell + d) % q < q / 2;
            count += dark ? 0 : 1;
        }
        return count;
    }

    /** "from start to start + width - 1" */
    private static void promise27FirstAndLastCells() {
        MoireEncoder x = new MoireEncoder();
        // Bright are cells 10 to 18, then 30 to 39.
        Check.due("27 before", x.brightness(0, 10), 0);
        Check.due("27 first", x.brightness(0, 11), 1);
        Check.due("27 from the first on", x.brightness(10, 9), 9);
        Check.due("27 one more", x.brightness(10, 10), 9);
        Check.due("27 one less", x.brightness(11, 8), 8);
        Check.due("27 last", x.brightness(18, 2), 1);
        Check.due("27 behind", x.brightness(19, 11), 0);
        Check.due("27 up to the next", x.brightness(19, 12), 1);
        int[] starts = {0, 1, 998, 999};
        int[] widths = {1, 2, 199, 200};
        for (int start : starts) {
            for (int width : widths) {
                int due = byHand(0, start, width, 20, 22, 3);
                Check.due("27 " + start + ", " + width, x.brightness(start, width), due);
            }
        }
    }

    private static void promise27NoneAndAll() {
        MoireEncoder x = Check.encoder("p80;i80,0;");
        Check.due("27 none", x.brightness(0, 40), 0);
        Check.due("27 all", x.brightness(40, 40), 40);
        Check.due("27 of 200", x.brightness(0, 200), 80);
        x.setIndexGrating(80, 40);
        Check.due("27 one is dark wherever the other is clear", x.brightness(999, 200), 0);
    }

    /** "the least such cell" */
    private static void promise28LeastOfEqualCells() {
        MoireEncoder x = Check.encoder("p8;i8,0;");
        // Bright are cells 4 to 7 of every eight.
        for (int width = 1; width <= 4; width++) {
            Check.due("28 width " + width, x.brightestStart(width), 4);
        }
        Check.due("28 width 5", x.brightestStart(5), 3);
        Check.due("28 width 6", x.brightestStart(6), 2);
        Check.due("28 width 7", x.brightestStart(7), 1);
        Check.due("28 width 8", x.brightestStart(8), 0);
        Check.due("28 width 9", x.brightestStart(9), 4);
        Check.due("28 width 200", x.brightestStart(200), 0);
        Check.due("28 width 199", x.brightestStart(199), 1);
        x.moveTo(4, 1);
        x.setIndexGrating(8, 4);
        Check.due("28 cell 0", x.brightestStart(1), 0);
        Check.due("28 cell 0", x.brightestStart(4), 0);
    }

    /** "from 0 to 199" */
    private static void promise28FirstAndLastCells() {
        // Brightness of 88 cells grows by one at start 199; one cell further would not count.
        Check.due("28 cell 199", Check.encoder("p8;i29,18;").brightestStart(88), 199);
        // Here the window at cell 200 would be brighter than all before it.
        int beyond = byHand(0, 200, 160, 8, 29, 15);
        for (int start = 0; start <= 199; start++) {
            Check.due("28 cell 200 would win", byHand(0, start, 160, 8, 29, 15) < beyond, true);
        }
        Check.due("28 not cell 200", Check.encoder("p8;i29,15;").brightestStart(160), byHandBest(0, 160, 8, 29, 15));
        for (int offset = 0; offset <= 79; offset++) {
            MoireEncoder x = Check.encoder("p80;i79," + offset + ";");
            for (int head = 0; head < 80; head += 13) {
                x.moveTo(head, 1);
                for (int width = 1; width <= 200; width += 199) {
                    int best = byHandBest(head, width, 80, 79, offset);
                    Check.due("28 head " + head + " width " + width, x.brightestStart(width), best);
                }
            }
        }
    }

    private static int byHandBest(int head, int width, int p, int q, int d) {
        int best = 0;
        for (int start = 1; start <= 199; start++) {
            best = byHand(head, start, width, p, q, d) > byHand(head, best, width, p, q, d) ? start : best;
        }
        return best;
    }

    private static void promise28NoBrightCell() {
        MoireEncoder x = Check.encoder("p80;i80,40;");
        for (int width = 1; width <= 200; width++) {
            Check.due("28 all windows alike, width " + width, x.brightestStart(width), 0);
        }
    }

    /** "the least common multiple of both pitches" */
    private static void promise29SmallestAndGreatest() {
        for (int p = 8; p <= 80; p += 4) {
            MoireEncoder x = Check.encoder("p" + p + ";");
            for (int q = 8; q <= 80; q++) {
                x.setIndexGrating(q, 0);
                int period = Math.max(p, q);
                while (period % p != 0 || period % q != 0) {
                    period++;
                }
                Check.due("29 " + p + " and " + q, x.overlayPeriod(), period);
            }
        }
        Check.due("29 smallest", Check.encoder("p8;i8,0;").overlayPeriod(), 8);
        Check.due("29 greatest", Check.encoder("p80;i79,0;").overlayPeriod(), 6320);
    }

    /** "NOT_FOUND if both pitches are equal" */
    private static void promise30And31EqualPitches() {
        for (int p = 8; p <= 80; p += 4) {
            MoireEncoder x = Check.encoder("p" + p + ";i" + p + ",9;");
            Check.due("30 equal", x.fringePeriodNumerator(), -4);
            Check.due("31 equal", x.fringePeriodDenominator(), -4);
            int other = p == 80 ? 79 : p + 1;
            x.setIndexGrating(other, 9);
            Check.due("30 one apart", x.fringePeriodNumerator(), p * other);
            Check.due("31 one apart", x.fringePeriodDenominator(), 1);
            x.undo();
            Check.due("30 equal again", x.fringePeriodNumerator(), -4);
            Check.due("31 equal again", x.fringePeriodDenominator(), -4);
        }
    }

    /** "as a fraction in lowest terms" */
    private static void promise30And31LowestTerms() {
        int[][] cases = {{8, 80, 80, 9}, {80, 8, 80, 9}, {20, 80, 80, 3}, {80, 79, 6320, 1}, {76, 80, 1520, 1},
            {8, 9, 72, 1}, {8, 79, 632, 71}, {80, 9, 720, 71}, {40, 80, 80, 1}, {12, 8, 24, 1}, {8, 12, 24, 1}};
        for (int[] c : cases) {
            MoireEncoder x = Check.encoder("p" + c[0] + ";i" + c[1] + ",0;");
            Check.due("30 " + c[0] + " and " + c[1], x.fringePeriodNumerator(), c[2]);
            Check.due("31 " + c[0] + " and " + c[1], x.fringePeriodDenominator(), c[3]);
        }
    }

    private static void promise32EqualPitches() {
        for (int p = 8; p <= 80; p += 4) {
            MoireEncoder x = Check.encoder("p" + p + ";i" + p + ",9;");
            Check.due("32 equal", x.magnificationBits(), -4);
            x.setIndexGrating(p == 8 ? 9 : p - 1, 9);
            float q = p == 8 ? 9.0f : (float) (p - 1);
            Check.due("32 one apart", x.magnificationBits(), Float.floatToIntBits(q / 1.0f));
        }
    }

    /** "Q divided by |P - Q|", on both sides of P. */
    private static void promise32BothSides() {
        Check.due("32 8 and 80", Check.encoder("p8;i80,0;").magnificationBits(), Float.floatToIntBits(80.0f / 72.0f));
        Check.due("32 80 and 8", Check.encoder("p80;i8,0;").magnificationBits(), Float.floatToIntBits(8.0f / 72.0f));
        Check.due("32 80 and 79", Check.encoder("p80;i79,0;").magnificationBits(), Float.floatToIntBits(79.0f));
        Check.due("32 8 and 9", Check.encoder("p8;i9,0;").magnificationBits(), Float.floatToIntBits(9.0f));
        Check.due("32 8 and 16", Check.encoder("p8;i16,0;").magnificationBits(), Float.floatToIntBits(2.0f));
        Check.due("32 16 and 8", Check.encoder("p16;i8,0;").magnificationBits(), Float.floatToIntBits(1.0f));
    }

    private static void promise33EndsOfTheRanges() {
        int[] pitches = {8, 12, 76, 80};
        int[] rises = {1, 2, 98, 99};
        int[] runs = {1, 2, 998, 999};
        for (int p : pitches) {
            MoireEncoder x = Check.encoder("p" + p + ";");
            for (int rise : rises) {
                for (int run : runs) {
                    float product = (float) p * (float) run;
                    int due = Float.floatToIntBits(product / (float) rise);
                    Check.due("33 " + p + " " + rise + " " + run, x.crossedSpacingBits(rise, run), due);
                }
            }
            Check.due("33 rise 0", x.crossedSpacingBits(0, 999), -1);
            Check.due("33 rise 100", x.crossedSpacingBits(100, 999), -1);
            Check.due("33 run 0", x.crossedSpacingBits(99, 0), -1);
            Check.due("33 run 1000", x.crossedSpacingBits(99, 1000), -1);
        }
    }
}

/** Promises 27 to 33: bright cells and fringe periods. */
public final class FringesTest {
    public static void main(String[] args) {
        promise27Brightness();
        promise27Arguments();
        promise28BrightestStart();
        promise28AllWindows();
        promise29OverlayPeriod();
        promise30And31FringePeriod();
        promise32Magnification();
        promise33CrossedSpacing();
        promise33Everywhere();
        Check.finish();
    }

    private static boolean bright(int head, int cell, int p, int q, int d) {
        return (head + cell) % p >= p / 2 && (cell + d) % q >= q / 2;
    }

    private static int brightCells(int head, int start, int width, int p, int q, int d) {
        int count = 0;
        for (int cell = start; cell < start + width; cell++) {
            count += bright(head, cell, p, q, d) ? 1 : 0;
        }
        return count;
    }

    private static void promise27Brightness() {
        MoireEncoder x = new MoireEncoder();
        // Scale clear at cells 10 to 19, index grating clear at cells 8 to 18.
        Check.due("27 cells 0 to 9", x.brightness(0, 10), 0);
        Check.due("27 cell 10", x.brightness(10, 1), 1);
        Check.due("27 cell 18", x.brightness(18, 1), 1);
        Check.due("27 cell 19", x.brightness(19, 1), 0);
        Check.due("27 cells 5 to 30", x.brightness(5, 26), 10);
        x.moveTo(9999, 99);
        Check.due("27 beyond the scale's end", x.brightness(999, 200), brightCells(9999, 999, 200, 20, 22, 3));
        // At head 9999 cell 0 is at 19 of its period: clear; the index grating is dark there.
        Check.due("27 cell 0", x.brightness(0, 1), 0);
        x.setIndexGrating(8, 4);
        Check.due("27 cell 0 behind a new index grating", x.brightness(0, 1), 1);
        x.setIndexGrating(9, 3);
        Check.due("27 odd pitch, dark below 4", x.brightness(0, 1), 0);
        x.setIndexGrating(9, 4);
        Check.due("27 odd pitch, clear from 4", x.brightness(0, 1), 1);
    }

    private static void promise27Arguments() {
        MoireEncoder x = new MoireEncoder();
        Check.due("27 start -1", x.brightness(-1, 10), -1);
        Check.due("27 start 1000", x.brightness(1000, 10), -1);
        Check.due("27 width 0", x.brightness(0, 0), -1);
        Check.due("27 width -1", x.brightness(0, -1), -1);
        Check.due("27 width 201", x.brightness(0, 201), -1);
        Check.due("27 extremes", x.brightness(Integer.MIN_VALUE, Integer.MAX_VALUE), -1);
        Check.due("27 start 999, width 1", x.brightness(999, 1), brightCells(0, 999, 1, 20, 22, 3));
        Check.due("27 width 200", x.brightness(0, 200), brightCells(0, 0, 200, 20, 22, 3));
    }

    private static int brightestStart(int head, int width, int p, int q, int d) {
        int best = 0;
        for (int start = 1; start <= 199; start++) {
            if (brightCells(head, start, width, p, q, d) > brightCells(head, best, width, p, q, d)) {
                best = start;
            }
        }
        return best;
    }

    private static void promise28BrightestStart() {
        MoireEncoder x = new MoireEncoder();
        Check.due("28 width 0", x.brightestStart(0), -1);
        Check.due("28 width 201", x.brightestStart(201), -1);
        Check.due("28 width MIN", x.brightestStart(Integer.MIN_VALUE), -1);
        Check.due("28 width 1", x.brightestStart(1), 10);
        Check.due("28 width 9", x.brightestStart(9), 10);
        Check.due("28 width 10", x.brightestStart(10), 30);
        Check.due("28 width 200", x.brightestStart(200), brightestStart(0, 200, 20, 22, 3));
        x.setIndexGrating(20, 0);
        Check.due("28 equal gratings", x.brightestStart(5), 5 + 5);
        x.setIndexGrating(20, 10);
        Check.due("28 no bright cell", x.brightestStart(5), 0);
    }

    private static void promise28AllWindows() {
        int[][] gratings = {{8, 80, 79}, {80, 79, 0}, {80, 78, 41}, {24, 25, 13}, {76, 9, 70}, {80, 80, 1}};
        for (int[] g : gratings) {
            MoireEncoder x = Check.encoder("p" + g[0] + ";i" + g[1] + "," + g[2] + ";");
            for (int head = 0; head < 100; head += 33) {
                x.moveTo(head, 1);
                for (int width = 1; width <= 200; width += 7) {
                    int want = brightestStart(head, width, g[0], g[1], g[2]);
                    Check.due("28 at " + head + " width " + width, x.brightestStart(width), want);
                }
            }
        }
        Check.due("28 start 199 may win", Check.encoder("p8;i29,18;").brightestStart(88), 199);
        Check.due("28 start 200 would be brighter", Check.encoder("p8;i29,15;").brightestStart(160),
                brightestStart(0, 160, 8, 29, 15));
    }

    private static void promise29OverlayPeriod() {
        Check.due("29 20 and 22", Check.encoder("p20;i22,0;").overlayPeriod(), 220);
        Check.due("29 equal", Check.encoder("p20;i20,0;").overlayPeriod(), 20);
        Check.due("29 multiple", Check.encoder("p8;i80,0;").overlayPeriod(), 80);
        Check.due("29 multiple the other way", Check.encoder("p80;i8,0;").overlayPeriod(), 80);
        Check.due("29 coprime", Check.encoder("p80;i79,5;").overlayPeriod(), 6320);
        Check.due("29 36 and 60", Check.encoder("p36;i60,5;").overlayPeriod(), 180);
        MoireEncoder x = new MoireEncoder();
        x.setIndexGrating(55, 0);
        Check.due("29 behind setIndexGrating", x.overlayPeriod(), 220);
    }

    private static void period(int p, int q, int numerator, int denominator) {
        MoireEncoder x = Check.encoder("p" + p + ";i" + q + ",7;");
        Check.due("30 " + p + " and " + q, x.fringePeriodNumerator(), numerator);
        Check.due("31 " + p + " and " + q, x.fringePeriodDenominator(), denominator);
    }

    private static void promise30And31FringePeriod() {
        period(20, 22, 220, 1);
        period(20, 18, 180, 1);
        period(20, 20, -4, -4);
        period(20, 80, 80, 3);
        period(80, 8, 80, 9);
        period(80, 79, 6320, 1);
        period(40, 33, 1320, 7);
        period(12, 30, 20, 1);
        period(8, 8, -4, -4);
        period(8, 75, 600, 67);
        for (int p = 8; p <= 80; p += 4) {
            for (int q = 8; q <= 80; q++) {
                if (p != q) {
                    int above = p * q;
                    int below = Math.abs(p - q);
                    for (int divisor = below; divisor > 1; divisor--) {
                        if (above % divisor == 0 && below % divisor == 0) {
                            above /= divisor;
                            below /= divisor;
                        }
                    }
                    period(p, q, above, below);
                }
            }
        }
    }

    private static void promise32Magnification() {
        Check.due("32 11.0", new MoireEncoder().magnificationBits(), 0x41300000);
        for (int p = 8; p <= 80; p += 4) {
            MoireEncoder x = Check.encoder("p" + p + ";");
            for (int q = 8; q <= 80; q++) {
                x.setIndexGrating(q, 0);
                int want = p == q ? -4 : Float.floatToIntBits((float) q / (float) Math.abs(p - q));
                Check.due("32 " + p + " and " + q, x.magnificationBits(), want);
            }
        }
    }

    private static void promise33CrossedSpacing() {
        MoireEncoder x = new MoireEncoder();
        Check.due("33 20.0", x.crossedSpacingBits(1, 1), 0x41a00000);
        Check.due("33 0.2020202", x.crossedSpacingBits(99, 1), Float.floatToIntBits(20.0f / 99.0f));
        Check.due("33 19980.0", x.crossedSpacingBits(1, 999), Float.floatToIntBits(19980.0f));
        Check.due("33 rise 0", x.crossedSpacingBits(0, 1), -1);
        Check.due("33 rise 100", x.crossedSpacingBits(100, 1), -1);
        Check.due("33 run 0", x.crossedSpacingBits(1, 0), -1);
        Check.due("33 run 1000", x.crossedSpacingBits(1, 1000), -1);
        Check.due("33 extremes", x.crossedSpacingBits(Integer.MIN_VALUE, Integer.MAX_VALUE), -1);
        x.setIndexGrating(44, 0);
        x.moveTo(50, 5);
        Check.due("33 the scale's pitch alone", x.crossedSpacingBits(1, 1), 0x41a00000);
    }

    private static void promise33Everywhere() {
        for (int p = 8; p <= 80; p += 12) {
            for (int rise = 1; rise <= 99; rise++) {
                MoireEncoder x = Check.encoder("p" + p + ";");
                for (int run = 1; run <= 999; run += 2) {
                    float product = (float) p * (float) run;
                    Check.due("33 " + p + " " + rise + " " + run, x.crossedSpacingBits(rise, run),
                            Float.floatToIntBits(product / (float) rise));
                }
            }
        }
    }
}

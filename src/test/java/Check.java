import java.util.Objects;

/** What all tests share: comparing answers, writing setup texts, ending with the right exit code. */
final class Check {
    static final long NONE = Long.MIN_VALUE;

    private static int wrong = 0;
    private static int made = 0;

    private Check() {
    }

    static void due(String what, long got, long want) {
        made++;
        if (got != want) {
            wrong++;
            System.out.println(what + " answered " + got + ", due is " + want);
        }
    }

    static void due(String what, Object got, Object want) {
        made++;
        if (!Objects.equals(got, want)) {
            wrong++;
            System.out.println(what + " answered " + got + ", due is " + want);
        }
    }

    /** Replaces the setup text. */
    static void type(MoireEncoder encoder, String text) {
        encoder.clearText();
        for (int i = 0; i < text.length(); i++) {
            due("append to " + text, encoder.append(text.charAt(i)), i + 1);
        }
    }

    /** A new encoder, configured by a setup text that is complete. */
    static MoireEncoder encoder(String setup) {
        MoireEncoder encoder = new MoireEncoder();
        type(encoder, setup);
        int marks = setup.length() - setup.replace("r", "").length();
        due("configure " + setup, encoder.configure(), marks);
        return encoder;
    }

    /** All that the encoder tells of its present state. */
    static String state(MoireEncoder x) {
        StringBuilder all = new StringBuilder();
        all.append("head ").append(x.position()).append(" counter ").append(x.counter());
        all.append(" slip ").append(x.slip()).append(" misses ").append(x.misses());
        all.append(" samples ").append(x.samples()).append(" rate ").append(x.missRateBits());
        all.append(" events");
        for (int i = 0; i < 9; i++) {
            all.append(' ').append(x.eventKind(i)).append('/').append(x.eventPosition(i));
            all.append('/').append(x.eventCounter(i));
        }
        all.append(" marks");
        for (int i = 0; i < 7; i++) {
            all.append(' ').append(x.markPosition(i));
        }
        all.append(" counts ").append(x.expectedCount(9999)).append(' ').append(x.expectedCount(79));
        all.append(" fringes ").append(x.overlayPeriod()).append(' ').append(x.fringePeriodNumerator());
        all.append('/').append(x.fringePeriodDenominator()).append(' ').append(x.magnificationBits());
        all.append(' ').append(x.crossedSpacingBits(7, 999)).append(" bright");
        for (int i = 0; i < 20; i++) {
            all.append(' ').append(x.brightness(i * 13, 9));
        }
        all.append(" forecast ").append(x.predictSlip(9999, 1)).append(' ').append(x.predictSlip(0, 1));
        return all.toString();
    }

    static void finish() {
        if (wrong != 0) {
            System.out.println(wrong + " of " + made + " answers are not as due");
            System.exit(1);
        }
    }
}

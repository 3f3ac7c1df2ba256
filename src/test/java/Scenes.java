import java.util.function.ToLongFunction;

/** Encoders in the states that the boundary cases need, and a comparison of two of them. */
final class Scenes {
    /** Makes a new encoder in a certain state, always the same one. */
    interface Scene {
        MoireEncoder make();
    }

    private Scenes() {
    }

    /** A complete setup text of exactly 200 characters. */
    static String fullText() {
        return "p8;".repeat(56) + "p040;i30,7;m2;r100;r2000;d50,20;";
    }

    /** Full of everything: text, marks, spans, events and changes; a slip, misses, odd quadrant. */
    static MoireEncoder full() {
        MoireEncoder x = Check.encoder("p20;m2;r100;r200;r320;r400;r540;r600;d660,9;");
        Check.type(x, fullText());
        x.addDirt(1000, 99);
        x.setMode(4);
        x.setIndexGrating(33, 5);
        x.moveTo(700, 4);
        x.zeroSlip();
        x.addDirt(350, 6);
        x.moveTo(450, 4);
        Check.due("540 behind 600", x.recover(0), 4);
        x.addDirt(0, 3);
        x.moveTo(355, 12);
        Check.due("a full log", x.eventKind(7) >= 0, true);
        Check.due("misses", x.misses() > 0, true);
        Check.due("a slip", x.slip() != 0, true);
        return x;
    }

    /** A changed encoder with room left for everything. */
    static MoireEncoder half() {
        MoireEncoder x = new MoireEncoder();
        Check.type(x, "p12;r5;d3,");
        x.moveTo(1013, 7);
        x.addDirt(1001, 20);
        x.moveTo(1007, 10);
        return x;
    }

    static MoireEncoder fresh() {
        return new MoireEncoder();
    }

    /** The call answers the code, and everything that can be seen stays, back to the oldest change. */
    static void refused(String name, Scene scene, ToLongFunction<MoireEncoder> call, long code) {
        for (int undos = 0; undos <= 7; undos++) {
            MoireEncoder with = scene.make();
            MoireEncoder without = scene.make();
            Check.due(name, call.applyAsLong(with), code);
            for (int n = 0; n < undos; n++) {
                Check.due(name + ", then undo " + n, with.undo(), without.undo());
            }
            same(name + ", then " + undos + " undos", with, without);
        }
        MoireEncoder with = scene.make();
        MoireEncoder without = scene.make();
        call.applyAsLong(with);
        Check.due(name + ", then firstError", with.firstError(), without.firstError());
        Check.due(name + ", then configure", with.configure(), without.configure());
        same(name + ", then configure", with, without);
    }

    /** Compares all that two encoders tell; uses both up. */
    static void same(String name, MoireEncoder one, MoireEncoder other) {
        Check.due(name + ": state", Check.state(one), Check.state(other));
        Check.due(name + ": hidden state", hidden(one), hidden(other));
    }

    /** What only changes can bring to light: mode, pitch, spans, last quadrant, length of the text. */
    private static String hidden(MoireEncoder x) {
        StringBuilder all = new StringBuilder("spans");
        for (int i = 3; i >= 0; i--) {
            all.append(' ').append(x.removeDirt(i));
        }
        all.append(" pitch ").append(x.setIndexGrating(8, 0)).append(" mode ").append(x.setMode(4));
        // In mode 4 and without dirt the next sample tells each last quadrant from the others.
        all.append(" read ").append(x.moveTo(x.position() == 0 ? 1 : x.position() - 1, 1));
        all.append(' ').append(x.counter()).append(" undo ").append(x.undo());
        all.append(" text ").append(x.clearText());
        return all.toString();
    }
}

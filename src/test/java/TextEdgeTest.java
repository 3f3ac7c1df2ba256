import java.util.ArrayList;
import java.util.List;

/** The boundary cases of the setup text: promises 1 to 5 and what the description says of it. */
public final class TextEdgeTest {
    private static final String BASE = "p20;i22,3;r400;m2;r1000;d660,9;";
    private static final String[] FORMS = {"p#;", "i#,0;", "i8,#;", "m#;", "r#;", "d#,1;", "d0,#;"};

    public static void main(String[] args) {
        promise01EmptyText();
        promise02TextOf200();
        promise03ClearsEachLength();
        promise04EmptyTextHasNoError();
        promise04FirstOfSeveral();
        textEndsWithinAStatement();
        noBlanks();
        lowerCaseLetter();
        oneToFourDigits();
        leadingZeros();
        numbersOfEachStatement();
        numbersApartByCommas();
        semicolonAtTheEnd();
        marksRise();
        atMostSixMarks();
        atMostFourSpans();
        spansMayOverlap();
        anyOrder();
        lastOneCounts();
        withoutIndexGrating();
        withoutMode();
        completeWithAPitch();
        everyWrongCharacter();
        promise05Counts();
        promise05TextStays();
        promise05FullText();
        promise05Begins();
        Check.finish();
    }

    /** Types the text and compares firstError and configure with the grammar. */
    private static void read(String text) {
        read(text, Grammar.firstError(text));
        Check.due("configure by " + text, typed(text).configure(), Grammar.configure(text));
    }

    private static void read(String text, int error) {
        Check.due("firstError of " + text, typed(text).firstError(), error);
        if (error >= 0) {
            Check.due("configure by invalid " + text, typed(text).configure(), -2);
        }
    }

    private static MoireEncoder typed(String text) {
        MoireEncoder x = new MoireEncoder();
        Check.type(x, text);
        return x;
    }

    /** "... and with an empty setup text." */
    private static void promise01EmptyText() {
        Check.due("1 first length", new MoireEncoder().append('p'), 1);
        Check.due("1 nothing to clear", new MoireEncoder().clearText(), 0);
        Check.due("1 no error", new MoireEncoder().firstError(), -4);
        Check.due("1 no setup", new MoireEncoder().configure(), -2);
    }

    /** "CAPACITY_EXCEEDED if the text already has 200 characters." */
    private static void promise02TextOf200() {
        MoireEncoder x = typed("x".repeat(199));
        Check.due("2 the 200th", x.append('y'), 200);
        Check.due("2 the 201st", x.append('z'), -3);
        Check.due("2 and again", x.append(32), -3);
        Check.due("2 and again", x.append(126), -3);
        Check.due("2 still 200", x.clearText(), 200);
        for (int length = 1; length <= 200; length++) {
            Check.due("2 from the begin again", x.append('a'), length);
        }
        Check.due("2 full again", x.append('a'), -3);
    }

    /** "Makes the setup text empty. Returns the length it had." */
    private static void promise03ClearsEachLength() {
        for (int length = 0; length <= 200; length++) {
            MoireEncoder x = typed("p".repeat(length));
            Check.due("3 length", x.clearText(), length);
            Check.due("3 no error is left", x.firstError(), -4);
            Check.due("3 empty", x.clearText(), 0);
        }
    }

    /** "NOT_FOUND if there is none (an empty text has none)." */
    private static void promise04EmptyTextHasNoError() {
        read("", -4);
        MoireEncoder x = typed("p9;");
        Check.due("4 an error", x.firstError(), 0);
        x.clearText();
        Check.due("4 none when cleared", x.firstError(), -4);
    }

    /** "the index (from 0) of the first character of the first invalid statement" */
    private static void promise04FirstOfSeveral() {
        read("p9;p10;", 0);
        read("p8;p10;p9;", 3);
        read("p8;m4;x", 6);
        read("p8;r5;r5;r4;p9;", 6);
        read("m4;;;", 3);
        read("p80;i80,79;m4;r9999;d9999,99;q", 29);
        read("p8;".repeat(65) + "m3;", 195);
        read("p8;".repeat(66) + "m4", 198);
        read("p8;".repeat(66) + "p0", 198);
        read("p8;".repeat(65) + "p08;x", 199);
    }

    /** "also if the text ends within it" */
    private static void textEndsWithinAStatement() {
        String text = "p20;i0022,3;m2;r400;d0660,09;r9999;d9999,99;i8,79;p0008;";
        int start = 0;
        for (int length = 0; length <= text.length(); length++) {
            String part = text.substring(0, length);
            if (part.isEmpty() || part.endsWith(";")) {
                start = length;
                read(part, -4);
            } else {
                read(part, start);
                Scenes.refused("configure by " + part, () -> typed(part), MoireEncoder::configure, -2);
            }
        }
        String full = Scenes.fullText();
        read(full, -4);
        for (int length = 169; length < 200; length++) {
            read(full.substring(0, length));
        }
    }

    /** "a sequence of statements, one after another, without blanks" */
    private static void noBlanks() {
        for (int place = 0; place <= BASE.length(); place++) {
            String text = BASE.substring(0, place) + " " + BASE.substring(place);
            read(text, BASE.lastIndexOf(';', place - 1) + 1);
        }
        read(" ", 0);
    }

    /** "A statement is a lower case letter ..." */
    private static void lowerCaseLetter() {
        for (int sign = 32; sign <= 126; sign++) {
            char letter = (char) sign;
            boolean one = "pmr".indexOf(letter) >= 0;
            boolean two = "id".indexOf(letter) >= 0;
            read("m4;" + letter + (letter == 'm' ? "1;" : "8;"), one ? -4 : 3);
            read("m4;" + letter + "8,8;", two ? -4 : 3);
            read("m4;" + letter + ";", 3);
            read("m4;" + letter, 3);
        }
    }

    /** "A number has one to four decimal digits" */
    private static void oneToFourDigits() {
        for (String form : FORMS) {
            read(form.replace("#", ""), 0);
            read(form.replace("#", "00000"), 0);
            read(form.replace("#", "00001"), 0);
            read(form.replace("#", "00008"), 0);
            read(form.replace("#", "10000"), 0);
            read(form.replace("#", "000000000008"), 0);
            read(form.replace("#", "4294967304"), 0);
            read(form.replace("#", "0x8"), 0);
            read(form.replace("#", "-8"), 0);
            read(form.replace("#", "+8"), 0);
        }
        read("p" + "0".repeat(197) + "8;", 0);
        read("p" + "8".repeat(199), 0);
    }

    /** "leading zeros are allowed" */
    private static void leadingZeros() {
        String[] eights = {"8", "08", "008", "0008"};
        for (String eight : eights) {
            for (String form : FORMS) {
                read(form.replace("#", form.startsWith("m") ? eight.replace('8', '4') : eight), -4);
            }
        }
        MoireEncoder x = Check.encoder("p0008;i0009,0007;m0002;r0100;r0200;d0050,0030;");
        Check.due("mark 0", x.markPosition(0), 100);
        Check.due("mark 1", x.markPosition(1), 200);
        Check.due("pitch and mode", x.expectedCount(100), 25);
        Check.due("span", x.removeDirt(0), 30);
        Check.due("index pitch", x.setIndexGrating(8, 0), 9);
        read("r0007;r7;", 6);
        read("r7;r08;", -4);
    }

    /** Each number of each line from 0 to 9999, in each way to write it. */
    private static void numbersOfEachStatement() {
        for (int n = 0; n <= 9999; n++) {
            numbers("p", "", n, n >= 8 && n <= 80 && n % 4 == 0);
            numbers("i", ",0", n, n >= 8 && n <= 80);
            numbers("i8,", "", n, n <= 79);
            numbers("m", "", n, n == 1 || n == 2 || n == 4);
            numbers("r", "", n, true);
            numbers("d", ",1", n, true);
            numbers("d0,", "", n, n >= 1 && n <= 99);
        }
    }

    private static void numbers(String before, String behind, int n, boolean valid) {
        String number = Integer.toString(n);
        while (number.length() <= 4) {
            read(before + number + behind + ";", valid ? -4 : 0);
            // Far outside, the shortest way to write a number is enough.
            number = n > 110 ? "00000" : "0" + number;
        }
    }

    /** "its numbers separated by commas" */
    private static void numbersApartByCommas() {
        String[] wrong = {"p8,;", "p,8;", "p8,8;", "i22;", "i,22;", "i22,;", "i22,,3;", "i22,3,;", "i22,3,4;",
            "i22.3;", "i22;3;", "i22:3;", "m4,;", "m,4;", "m4,4;", "r5,;", "r,5;", "r5,5;", "d5;", "d5,;",
            "d,5;", "d5,,5;", "d5,5,;", "d5,5,5;", "d5 5;", "d5-5;", "i,;", "d,;", ",;", ","};
        for (String text : wrong) {
            read(text, 0);
            read(BASE + text, BASE.length());
        }
    }

    /** "... and a semicolon" */
    private static void semicolonAtTheEnd() {
        for (int sign = 32; sign <= 126; sign++) {
            char end = (char) sign;
            boolean right = end == ';';
            read("p8" + end, right ? -4 : 0);
            read("m4" + end, right ? -4 : 0);
            read("r9" + end, right ? -4 : 0);
            read("i9,9" + end, right ? -4 : 0);
            read("d9,9" + end, right ? -4 : 0);
            read("p8" + end + "p8;", right ? -4 : 0);
        }
        read(";", 0);
        read("p8;;", 3);
    }

    /** "greater than that of the reference mark stated before it" */
    private static void marksRise() {
        int[] places = {0, 1, 9, 10, 99, 100, 999, 1000, 4096, 9998, 9999};
        for (int first : places) {
            for (int n = -1; n <= 1; n++) {
                if (first + n >= 0 && first + n <= 9999) {
                    String start = "r" + first + ";";
                    read(start + "r" + (first + n) + ";", n > 0 ? -4 : start.length());
                    String more = start + "p8;d5,5;m1;i9,9;";
                    read(more + "r" + (first + n) + ";", n > 0 ? -4 : more.length());
                }
            }
        }
        read("r9999;r0;", 6);
        read("r9999;r9999;", 6);
        read("r0;r0;", 3);
        // Before it, not before all: the greatest of an earlier text plays no part.
        MoireEncoder x = typed("r9999;");
        Check.due("greatest mark", x.firstError(), -4);
        Check.type(x, "p8;r0;");
        Check.due("least mark in the next text", x.firstError(), -4);
        Check.due("configured", x.configure(), 1);
        Check.due("and again", x.configure(), 1);
        Check.due("behind configure", x.firstError(), -4);
    }

    /** "at most 6", "or if it states one reference mark ... too many" */
    private static void atMostSixMarks() {
        String six = "r1;r2;r3;r4;r5;r6;";
        read(six, -4);
        read(six + "r7;", 18);
        read(six + "p8;r9999;", 21);
        read(six + "m4;d1,1;i9,9;", -4);
        read("p8;" + six + "r7;r8;", 21);
        MoireEncoder x = typed("p8;" + six + "r7;");
        Check.due("refused with seven", x.configure(), -2);
        Check.due("the marks are the old ones", x.markPosition(0), 400);
        Check.type(x, "p8;" + six);
        Check.due("six", x.configure(), 6);
        Check.due("the sixth", x.markPosition(5), 6);
        Check.due("no seventh", x.markPosition(6), -1);
    }

    /** "at most 4", "or one dirty span too many" */
    private static void atMostFourSpans() {
        String four = "d1,1;d2,2;d3,3;d4,4;";
        read(four, -4);
        read(four + "d5,5;", 20);
        read(four + "p8;d1,1;", 23);
        read(four + "r1;r2;m1;i9,9;", -4);
        read("p8;" + four + "d5,5;d6,6;", 23);
        MoireEncoder x = typed("p8;" + four + "d5,5;");
        Check.due("refused with five", x.configure(), -2);
        Check.due("the span is the old one", x.removeDirt(0), 9);
        Check.type(x, "p8;" + four);
        Check.due("four", x.configure(), 0);
        Check.due("no room", x.addDirt(9, 9), -3);
        Check.due("the fourth", x.removeDirt(3), 4);
        Check.due("room", x.addDirt(9, 9), 4);
    }

    /** "spans may overlap" */
    private static void spansMayOverlap() {
        read("d5,5;d5,5;d5,5;d5,5;", -4);
        read("d9,1;d0,99;d5,1;d98,2;", -4);
        MoireEncoder x = Check.encoder("p8;d1,9;d5,9;d1,1;d13,1;");
        x.moveTo(13, 1);
        Check.due("no sample up to 13 is read", x.counter(), 0);
        // 14 is in quadrant 3 and quadrant 0 was read last.
        x.moveTo(14, 1);
        Check.due("14 is clean", x.counter(), -1);
    }

    /** "Statements may come in any order." */
    private static void anyOrder() {
        String[] parts = {"p40;", "i9,5;", "m2;", "r700;", "d30,12;"};
        String due = null;
        for (int n = 0; n < 120; n++) {
            StringBuilder text = new StringBuilder();
            List<String> left = new ArrayList<>(List.of(parts));
            int rest = n;
            for (int size = 5; size >= 1; size--) {
                text.append(left.remove(rest % size));
                rest /= size;
            }
            MoireEncoder x = Check.encoder(text.toString());
            String state = Check.state(x) + x.removeDirt(0) + x.setMode(1) + x.setIndexGrating(8, 0);
            due = due == null ? state : due;
            Check.due("state by " + text, state, due);
        }
    }

    /** "If p, i or m is stated several times, the last one counts." */
    private static void lastOneCounts() {
        MoireEncoder x = Check.encoder("p80;p40;p8;i8,1;i80,79;i10,8;m1;m4;m2;r4;");
        Check.due("last p and m", x.expectedCount(80), 20);
        Check.due("last p alone", x.crossedSpacingBits(1, 1), Float.floatToIntBits(8.0f));
        // Scale clear at cells 4 to 7, index grating clear at cells 7 to 11.
        Check.due("last offset", x.brightness(0, 7), 0);
        Check.due("last offset", x.brightness(7, 1), 1);
        Check.due("last m", x.setMode(4), 2);
        Check.due("last i", x.setIndexGrating(8, 0), 10);
        read("p8;p9;p8;", 3);
        read("p8;m3;m4;", 3);
        read("p8;i7,0;i8,0;", 3);
    }

    /** "Without an i statement Q is 22 and D is 0" */
    private static void withoutIndexGrating() {
        MoireEncoder x = Check.encoder("p80;i9,9;");
        x.setIndexGrating(50, 50);
        Check.type(x, "p80;");
        Check.due("configure", x.configure(), 0);
        x.moveTo(40, 1);
        // The scale is clear at cells 0 to 39, the index grating at cells 11 to 21 and 33 to 43.
        Check.due("cells 0 to 10", x.brightness(0, 11), 0);
        Check.due("cells 11 to 21", x.brightness(11, 11), 11);
        Check.due("cells 22 to 32", x.brightness(22, 11), 0);
        Check.due("cell 33", x.brightness(33, 1), 1);
        Check.due("Q", x.setIndexGrating(8, 0), 22);
    }

    /** "without an m statement the mode is 4" */
    private static void withoutMode() {
        MoireEncoder x = Check.encoder("p8;m1;");
        x.setMode(2);
        Check.type(x, "p8;");
        Check.due("configure", x.configure(), 0);
        Check.due("count", x.expectedCount(8), 4);
        Check.due("mode", x.setMode(1), 4);
    }

    /** "A setup is complete if it is valid and has a p statement." */
    private static void completeWithAPitch() {
        String[] without = {"", "m4;", "i22,0;", "r5;", "d5,5;", "i22,0;m4;r5;d5,5;"};
        for (String text : without) {
            read(text, -4);
            Scenes.refused("configure by " + text, () -> typed(text), MoireEncoder::configure, -2);
            int marks = text.contains("r") ? 1 : 0;
            Check.due("with p before " + text, typed("p8;" + text).configure(), marks);
            Check.due("with p behind " + text, typed(text + "p8;").configure(), marks);
        }
        // A p that an earlier text stated does not count.
        MoireEncoder x = Check.encoder("p8;");
        Check.type(x, "m4;");
        Check.due("no p in this text", x.configure(), -2);
        Check.due("a p in no statement", typed("m4;p").configure(), -2);
    }

    /** Each character in each place: put in, put instead and left out. */
    private static void everyWrongCharacter() {
        String[] texts = {BASE, "r0;r1;r2;r3;r4;r5;p8;", "d1,1;d1,1;d1,1;d1,1;m4;", "p0008;i0080,0079;"};
        for (String text : texts) {
            for (int place = 0; place < text.length(); place++) {
                String before = text.substring(0, place);
                read(before + text.substring(place + 1));
                for (int sign = 32; sign <= 126; sign++) {
                    read(before + (char) sign + text.substring(place + 1));
                    read(before + (char) sign + text.substring(place));
                }
            }
        }
    }

    /** "Returns the number of reference marks" */
    private static void promise05Counts() {
        StringBuilder marks = new StringBuilder();
        for (int count = 0; count <= 6; count++) {
            Check.due("5 marks", typed("p8;" + marks).configure(), count);
            marks.append('r').append(count * 1999).append(';');
        }
    }

    /** "Configures the encoder by the setup text, which stays as it is." */
    private static void promise05TextStays() {
        MoireEncoder x = typed("p8;r5;");
        Check.due("5 configure", x.configure(), 1);
        Check.due("5 goes on behind the text", x.append('m'), 7);
        Check.due("5 no longer valid", x.configure(), -2);
        x.append('1');
        x.append(';');
        Check.due("5 valid again", x.configure(), 1);
        Check.due("5 mode", x.setMode(4), 1);
        Check.due("5 length", x.clearText(), 9);
        MoireEncoder y = typed("p8;r5;r4;");
        Check.due("5 refused", y.configure(), -2);
        Check.due("5 stays when refused", y.firstError(), 6);
        Check.due("5 stays when refused", y.clearText(), 9);
    }

    private static void promise05FullText() {
        MoireEncoder x = typed(Scenes.fullText());
        Check.due("5 full text", x.append(';'), -3);
        Check.due("5 full text", x.firstError(), -4);
        Check.due("5 full text", x.configure(), 2);
        Check.due("5 its last p and its m", x.expectedCount(40), 2);
        Check.due("5 its last statement", x.removeDirt(0), 20);
        Check.due("5 its length", x.clearText(), 200);
        // A statement that the 200 characters cut off.
        String cut = "p8;".repeat(64) + "m4;r9999";
        Check.due("5 200 characters", cut.length(), 200);
        MoireEncoder y = typed(cut);
        Check.due("5 no room for its end", y.append(';'), -3);
        Check.due("5 cut off", y.firstError(), 195);
        Check.due("5 cut off", y.configure(), -2);
    }

    /** "The head is at position 0, the counter, the misses and the samples are 0, ..." */
    private static void promise05Begins() {
        MoireEncoder x = Scenes.full();
        Check.due("5 configure", x.configure(), 2);
        Check.due("5 position", x.position(), 0);
        Check.due("5 counter", x.counter(), 0);
        Check.due("5 slip", x.slip(), 0);
        Check.due("5 misses", x.misses(), 0);
        Check.due("5 samples", x.samples(), 0);
        Check.due("5 no rate", x.missRateBits(), -4);
        Check.due("5 no event", x.eventKind(0), -1);
        Check.due("5 nothing to undo", x.undo(), -2);
        MoireEncoder y = Check.encoder(Scenes.fullText());
        Scenes.same("5 as configured in a new encoder", x, y);
        for (int quadrant = 0; quadrant < 4; quadrant++) {
            MoireEncoder z = Check.encoder("p40;");
            z.moveTo(quadrant * 10 + 5, 1);
            Check.due("5 configure again", z.configure(), 0);
            Check.due("5 from quadrant 0", z.moveTo(10, 10), 0);
            Check.due("5 to quadrant 1", z.counter(), 1);
        }
    }
}

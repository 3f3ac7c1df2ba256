/** Promises 1 to 5: a new object and the setup text. */
public final class SetupTest {
    public static void main(String[] args) {
        promise01NewObject();
        promise01DirtOfNewObject();
        promise02Append();
        promise03ClearText();
        promise04ValidTexts();
        promise04BrokenForm();
        promise04NumbersOutOfRange();
        promise04TooMany();
        promise05Configure();
        promise05Defaults();
        promise05LastStatementCounts();
        promise05StartsAfresh();
        promise05Incomplete();
        Check.finish();
    }

    private static void promise01NewObject() {
        MoireEncoder x = new MoireEncoder();
        Check.due("1 position", x.position(), 0);
        Check.due("1 counter", x.counter(), 0);
        Check.due("1 misses", x.misses(), 0);
        Check.due("1 samples", x.samples(), 0);
        Check.due("1 eventKind(0)", x.eventKind(0), -1);
        Check.due("1 markPosition(0)", x.markPosition(0), 400);
        Check.due("1 markPosition(1)", x.markPosition(1), 1000);
        Check.due("1 markPosition(2)", x.markPosition(2), 1740);
        Check.due("1 markPosition(3)", x.markPosition(3), -1);
        Check.due("1 undo", x.undo(), -2);
        Check.due("1 firstError", x.firstError(), -4);
        Check.due("1 configure by the empty text", x.configure(), -2);
        Check.due("1 clearText", x.clearText(), 0);
        Check.due("1 offset 3 lets cell 10 be bright", x.brightness(10, 1), 1);
        Check.due("1 offset 3 lets cell 19 be dark", x.brightness(19, 1), 0);
        Check.due("1 setIndexGrating", x.setIndexGrating(30, 0), 22);
        Check.due("1 setMode", x.setMode(4), 4);
        Check.due("1 pitch 20", x.expectedCount(20), 4);
    }

    private static void promise01DirtOfNewObject() {
        MoireEncoder x = new MoireEncoder();
        x.moveTo(659, 1);
        Check.due("1 slip before the dirt", x.slip(), 0);
        x.moveTo(660, 1);
        Check.due("1 slip at the first dirty place", x.slip(), -1);
        Check.due("1 to the last dirty place", x.moveTo(668, 1), 0);
        Check.due("1 behind the dirt", x.moveTo(669, 1), 1);
        Check.due("1 removeDirt(0)", x.removeDirt(0), 9);
        Check.due("1 no second span", x.removeDirt(0), -1);
    }

    private static void promise02Append() {
        MoireEncoder x = new MoireEncoder();
        Check.due("2 append(31)", x.append(31), -1);
        Check.due("2 append(127)", x.append(127), -1);
        Check.due("2 append(-1)", x.append(-1), -1);
        Check.due("2 append(MIN)", x.append(Integer.MIN_VALUE), -1);
        Check.due("2 append(MAX)", x.append(Integer.MAX_VALUE), -1);
        Check.due("2 append('p' + 65536)", x.append('p' + 65536), -1);
        Check.due("2 append(32)", x.append(32), 1);
        Check.due("2 append(126)", x.append(126), 2);
        for (int length = 3; length <= 200; length++) {
            Check.due("2 append", x.append('a'), length);
        }
        Check.due("2 the 201st", x.append('a'), -3);
        Check.due("2 the range comes first", x.append(127), -1);
        Check.due("2 the length stays", x.clearText(), 200);
        Check.due("2 room again", x.append('a'), 1);
    }

    private static void promise03ClearText() {
        MoireEncoder x = new MoireEncoder();
        Check.type(x, "p8");
        Check.due("3 clearText", x.clearText(), 2);
        Check.due("3 clearText again", x.clearText(), 0);
        Check.due("3 empty text", x.firstError(), -4);
        Check.type(x, "p12;");
        Check.due("3 nothing of the old text is left", x.configure(), 0);
        Check.due("3 expectedCount", x.expectedCount(12), 4);
    }

    private static void error(String text, int want) {
        MoireEncoder x = new MoireEncoder();
        Check.type(x, text);
        Check.due("4 firstError of " + text, x.firstError(), want);
        if (want >= 0) {
            String before = Check.state(x);
            Check.due("5 configure by " + text, x.configure(), -2);
            Check.due("5 state behind " + text, Check.state(x), before);
        }
        Check.due("4 the text stays: " + text, x.clearText(), text.length());
    }

    private static void promise04ValidTexts() {
        error("", -4);
        error("p8;", -4);
        error("p80;", -4);
        error("p0008;", -4);
        error("i8,0;", -4);
        error("i80,79;", -4);
        error("i9,1;", -4);
        error("i0022,0003;", -4);
        error("m1;m2;m4;m0004;", -4);
        error("r0;r1;r2;r3;r4;r9999;", -4);
        error("d0,1;d9999,99;d0,99;d0,99;", -4);
        error("d5,9;r7;m1;i30,3;p16;p20;i8,8;", -4);
    }

    private static void promise04BrokenForm() {
        error("p", 0);
        error("p8", 0);
        error(";", 0);
        error("p;", 0);
        error("8;", 0);
        error("P8;", 0);
        error("x8;", 0);
        error(" p8;", 0);
        error("p 8;", 0);
        error("p8 ;", 0);
        error("p8; ", 3);
        error("p8;;", 3);
        error("p-8;", 0);
        error("p+8;", 0);
        error("p00008;", 0);
        error("p8,0;", 0);
        error("p8:", 0);
        error("p8/;", 0);
        error("m4,;", 0);
        error("p8;r5,1;", 3);
        error("p8;r00005;", 3);
        error("p8;i22;", 3);
        error("p8;i22,;", 3);
        error("p8;i,3;", 3);
        error("p8;i22,3,1;", 3);
        error("p8;i22,00003;", 3);
        error("p8;i00022,3;", 3);
        error("p8;i22,3", 3);
        error("p8;i22,", 3);
        error("p8;i22", 3);
        error("p8;i", 3);
        error("p8;d10;", 3);
        error("p8;d10,10", 3);
        error("p8;d00010,10;", 3);
        error("p8;d10,00010;", 3);
        error("p8;r5;q;r4;", 6);
        // Signs that would make a fitting number if they were taken for digits.
        error("p<;", 0);
        error("r:;", 0);
        error("d:,5;", 0);
        error("d5,:;", 0);
    }

    private static void promise04NumbersOutOfRange() {
        error("p4;", 0);
        error("p7;", 0);
        error("p9;", 0);
        error("p10;", 0);
        error("p81;", 0);
        error("p84;", 0);
        error("p0;", 0);
        error("p8;i7,0;", 3);
        error("p8;i81,0;", 3);
        error("p8;i8,80;", 3);
        error("p8;m0;", 3);
        error("p8;m3;", 3);
        error("p8;m5;", 3);
        error("p8;m8;", 3);
        error("p8;d0,0;", 3);
        error("p8;d0,100;", 3);
        error("p8;r5;r5;", 6);
        error("p8;r5;r4;", 6);
        error("r9;m4;r8;", 6);
        error("p10;p8;", 0);
        error("m3;p10;", 0);
    }

    private static void promise04TooMany() {
        error("r1;r2;r3;r4;r5;r6;r7;", 18);
        error("d1,1;d1,1;d1,1;d1,1;d1,1;", 20);
        error("r1;d1,1;r2;d1,1;r3;d1,1;r4;d1,1;r5;r6;d1,1;", 38);
        StringBuilder full = new StringBuilder();
        while (full.length() < 198) {
            full.append("p8;");
        }
        error(full + "m4", 198);
        error(full.substring(0, 192) + "m4;p008;", -4);
        error(full.substring(0, 195) + "0;m4;", 195);
    }

    private static void promise05Configure() {
        MoireEncoder x = new MoireEncoder();
        Check.type(x, "r7;p40;d30,12;i9,5;m2;r2000;d5,3;");
        Check.due("5 configure", x.configure(), 2);
        Check.due("5 mark 0", x.markPosition(0), 7);
        Check.due("5 mark 1", x.markPosition(1), 2000);
        Check.due("5 mark 2", x.markPosition(2), -1);
        Check.due("5 pitch and mode", x.expectedCount(100), 5);
        Check.due("5 overlay", x.overlayPeriod(), 360);
        Check.due("5 first span", x.removeDirt(0), 12);
        Check.due("5 second span", x.removeDirt(0), 3);
        Check.due("5 mode", x.setMode(1), 2);
        Check.due("5 index pitch", x.setIndexGrating(10, 0), 9);
        Check.due("5 the text stays", x.configure(), 2);
        Check.due("5 dirt is back", x.removeDirt(1), 3);
        Check.due("5 mode is back", x.setMode(2), 2);
        Check.due("5 text length", x.clearText(), 33);
    }

    private static void promise05Defaults() {
        MoireEncoder x = new MoireEncoder();
        x.setMode(1);
        x.setIndexGrating(40, 40);
        Check.type(x, "p16;");
        Check.due("5 no marks", x.configure(), 0);
        Check.due("5 markPosition(0)", x.markPosition(0), -1);
        Check.due("5 no dirt", x.removeDirt(0), -1);
        // Scale clear at cells 8 to 15, index grating 22 with offset 0 clear at cells 11 to 21.
        Check.due("5 offset 0", x.brightness(0, 22), 5);
        Check.due("5 cell 10", x.brightness(10, 1), 0);
        Check.due("5 cell 11", x.brightness(11, 1), 1);
        Check.due("5 default pitch", x.setIndexGrating(8, 0), 22);
        Check.due("5 default mode", x.setMode(4), 4);
        MoireEncoder y = Check.encoder("p16;i40,40;m1;r5;d5,5;");
        Check.type(y, "p16;");
        Check.due("5 nothing of an earlier setup", y.configure(), 0);
        Check.due("5 default offset again", y.brightness(0, 22), 5);
        Check.due("5 default pitch again", y.setIndexGrating(8, 0), 22);
        Check.due("5 default mode again", y.setMode(4), 4);
        Check.due("5 no dirt again", y.removeDirt(0), -1);
    }

    private static void promise05LastStatementCounts() {
        MoireEncoder x = Check.encoder("p80;m1;i8,1;p8;i10,8;m2;");
        Check.due("5 last p and m", x.expectedCount(8), 2);
        // Scale clear at cells 4 to 7, index grating clear at cells 7 to 11.
        Check.due("5 last offset", x.brightness(0, 8), 1);
        Check.due("5 last i", x.setIndexGrating(8, 0), 10);
    }

    private static void promise05StartsAfresh() {
        MoireEncoder x = new MoireEncoder();
        Check.type(x, "p20;i22,3;r400;r1000;r1740;d660,9;");
        String fresh = Check.state(x);
        x.moveTo(1507, 11);
        x.setMode(1);
        x.moveTo(333, 7);
        x.addDirt(5, 5);
        x.setIndexGrating(9, 9);
        Check.due("5 configure again", x.configure(), 3);
        Check.due("5 state of a new object", Check.state(x), fresh);
        Check.due("5 nothing to undo", x.undo(), -2);
        // The head stood in quadrant 2; a last quadrant that is not 0 would be seen here.
        x.moveTo(13, 1);
        x.configure();
        Check.due("5 last quadrant is 0", x.moveTo(5, 5), 0);
        Check.due("5 one step", x.counter(), 1);
        Check.due("5 one change", x.undo(), 0);
    }

    private static void promise05Incomplete() {
        MoireEncoder x = new MoireEncoder();
        x.moveTo(777, 3);
        x.setMode(2);
        String before = Check.state(x);
        Check.due("5 empty text", x.configure(), -2);
        Check.type(x, "i22,3;m4;r5;d5,5;");
        Check.due("5 no p", x.configure(), -2);
        Check.type(x, "p20;r5;r5;");
        Check.due("5 invalid", x.configure(), -2);
        Check.type(x, "p20;r5;p10;");
        Check.due("5 invalid second p", x.configure(), -2);
        Check.due("5 nothing changed", Check.state(x), before);
        Check.due("5 undo is left", x.undo(), 1);
    }
}

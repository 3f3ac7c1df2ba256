import java.util.ArrayList;
import java.util.List;

/** The boundary cases of the changes: promises 7 to 11 and 13, and what can be undone. */
public final class UndoEdgeTest {
    private static final int KINDS = 12;

    public static void main(String[] args) {
        nothingToUndo();
        oneToNineChanges();
        newestFirst();
        everyKindIsAChange();
        changesThatLeaveAllAsItWas();
        everyKindIsUndone();
        everyKindAsTheOldest();
        undoThenChange();
        lastQuadrantIsBack();
        eventsThatFellOutAreBack();
        marksAndPitchStay();
        setupTextIsNotAffected();
        nothingBehindConfigure();
        refusedConfigureKeepsTheChanges();
        readingsAreNoChanges();
        promise07EmptiesTheLog();
        promise07CounterInThatMode();
        promise08FirstAndLastGratings();
        promise09FromNoneToFour();
        promise10EachIndex();
        promise10PlacesOfTheOthers();
        promise11CounterChangedOrNot();
        Check.finish();
    }

    /** A setup whose marks and dirt let every kind of change succeed. */
    private static MoireEncoder base() {
        MoireEncoder x = Check.encoder("p20;i22,3;r100;r300;r700;d40,20;");
        x.moveTo(350, 4);
        x.moveTo(355, 15);
        return x;
    }

    private static void change(MoireEncoder x, int kind) {
        switch (kind) {
            case 0 -> Check.due("moveTo", x.moveTo(120, 7) >= 0, true);
            case 1 -> Check.due("moveTo", x.moveTo(x.position(), 99), 0);
            case 2 -> Check.due("setMode", x.setMode(1) > 0, true);
            case 3 -> Check.due("setMode", x.setMode(4) > 0, true);
            case 4 -> Check.due("setIndexGrating", x.setIndexGrating(31, 17) > 0, true);
            case 5 -> Check.due("setIndexGrating", x.setIndexGrating(22, 3) > 0, true);
            case 6 -> Check.due("addDirt", x.addDirt(90, 30) > 0, true);
            case 7 -> Check.due("removeDirt", x.removeDirt(0) > 0, true);
            case 8 -> Check.due("zeroSlip", x.zeroSlip() >= 0, true);
            case 9 -> Check.due("recover", x.recover(9) >= 0, true);
            case 10 -> Check.due("moveTo", x.moveTo(9999, 99) >= 0, true);
            default -> Check.due("moveTo", x.moveTo(0, 1) >= 0, true);
        }
    }

    /** "NOT_POSSIBLE if there is none to undo" */
    private static void nothingToUndo() {
        MoireEncoder x = new MoireEncoder();
        Check.due("13 new", x.undo(), -2);
        Check.due("13 and again", x.undo(), -2);
        x.zeroSlip();
        Check.due("13 one change", x.undo(), 0);
        Check.due("13 none again", x.undo(), -2);
        Scenes.same("13 as new", x, new MoireEncoder());
    }

    /** "The newest 6 changes can be undone": from an empty row of changes to more than a full one. */
    private static void oneToNineChanges() {
        for (int made = 0; made <= 9; made++) {
            MoireEncoder x = new MoireEncoder();
            for (int n = 1; n <= made; n++) {
                x.moveTo(10 * n, 1);
            }
            int undone = Math.min(6, made);
            for (int n = 1; n <= undone; n++) {
                Check.due("13 left of " + made, x.undo(), undone - n);
                Check.due("13 place", x.position(), 10 * (made - n));
            }
            Check.due("13 no more of " + made, x.undo(), -2);
            Check.due("13 still there", x.position(), 10 * (made - undone));
        }
    }

    /** "the newest first" */
    private static void newestFirst() {
        MoireEncoder x = Check.encoder("p20;");
        x.addDirt(1, 1);
        x.addDirt(2, 2);
        x.setMode(2);
        x.setIndexGrating(30, 0);
        Check.due("grating first", x.undo(), 3);
        Check.due("grating", x.fringePeriodNumerator(), 220);
        Check.due("mode is kept", x.expectedCount(20), 2);
        Check.due("mode second", x.undo(), 2);
        Check.due("mode", x.expectedCount(20), 4);
        Check.due("second span third", x.undo(), 1);
        Check.due("second span", x.removeDirt(1), -1);
        Check.due("first span", x.removeDirt(0), 1);
    }

    /** "Every successful call of moveTo, setMode, ... is a change" */
    private static void everyKindIsAChange() {
        for (int kind = 0; kind < KINDS; kind++) {
            MoireEncoder x = base();
            change(x, kind);
            Check.due("kind " + kind + " is one change", x.undo(), 2);
        }
    }

    /** "also if it leaves everything as it was" */
    private static void changesThatLeaveAllAsItWas() {
        MoireEncoder x = Check.encoder("p20;r5;r50;d400,9;");
        Check.due("own place", x.moveTo(0, 1), 0);
        Check.due("present mode", x.setMode(4), 4);
        Check.due("present grating", x.setIndexGrating(22, 0), 22);
        Check.due("no slip", x.zeroSlip(), 0);
        String before = Check.state(Check.encoder("p20;r5;r50;d400,9;"));
        Check.due("all as it was", Check.state(x), before);
        for (int left = 3; left >= 0; left--) {
            Check.due("four changes", x.undo(), left);
            Check.due("all as it was", Check.state(x), before);
        }
        MoireEncoder y = Check.encoder("p20;r5;r50;d400,9;");
        y.moveTo(60, 5);
        y.moveTo(60, 99);
        y.setIndexGrating(22, 0);
        y.zeroSlip();
        Check.due("no slip to recover", y.recover(0), 1);
        for (int left = 4; left >= 0; left--) {
            Check.due("left", y.undo(), left);
            Check.due("place", y.position(), left > 0 ? 60 : 0);
        }
    }

    /** "An undone change is as if it had not been made" */
    private static void everyKindIsUndone() {
        for (int kind = 0; kind < KINDS; kind++) {
            MoireEncoder x = base();
            change(x, kind);
            x.undo();
            Scenes.same("kind " + kind + " undone", x, base());
            for (int second = 0; second < KINDS; second++) {
                MoireEncoder y = base();
                MoireEncoder z = base();
                change(y, kind);
                y.undo();
                change(y, second);
                change(z, second);
                Scenes.same("kind " + kind + " undone, then " + second, y, z);
            }
        }
    }

    /** Each kind as the oldest of six, and as the seventh, which can no longer be undone. */
    private static void everyKindAsTheOldest() {
        for (int kind = 0; kind < KINDS; kind++) {
            for (int behind = 5; behind <= 6; behind++) {
                MoireEncoder x = base();
                MoireEncoder due = base();
                change(x, kind);
                if (behind == 6) {
                    change(due, kind);
                }
                for (int n = 0; n < behind; n++) {
                    x.moveTo(500 + n, 3);
                }
                for (int left = 5; left >= 0; left--) {
                    Check.due("undo", x.undo(), left);
                }
                Check.due("no seventh", x.undo(), -2);
                Check.due("kind " + kind + " with " + behind + " behind it", Check.state(x), Check.state(due));
            }
        }
    }

    private static void undoThenChange() {
        MoireEncoder x = new MoireEncoder();
        List<Integer> places = new ArrayList<>(List.of(0));
        // Up to six changes stand behind one another, whatever was undone before.
        String steps = "cccucccuucccccccuuuuuuucucccuccccccccuuuuuuu";
        int left = 0;
        for (int n = 0; n < steps.length(); n++) {
            if (steps.charAt(n) == 'c') {
                x.moveTo(7 * n + 7, 3);
                places.add(7 * n + 7);
                left = Math.min(6, left + 1);
            } else {
                Check.due("step " + n, x.undo(), left > 0 ? left - 1 : -2);
                if (left > 0) {
                    places.remove(places.size() - 1);
                    left--;
                }
            }
            int place = places.get(places.size() - 1);
            Check.due("place behind step " + n, x.position(), place);
        }
    }

    private static void lastQuadrantIsBack() {
        for (int quadrant = 0; quadrant < 4; quadrant++) {
            for (int next = 0; next < 4; next++) {
                MoireEncoder x = Check.encoder("p80;");
                x.moveTo(20 * quadrant + 5, 1);
                x.moveTo(20 * next + 10, 99);
                x.undo();
                long counter = x.counter();
                Check.due("no miss", x.moveTo(20 * quadrant + 20, 99), 0);
                Check.due("one quadrant further", x.counter(), counter + 1);
            }
        }
    }

    private static void eventsThatFellOutAreBack() {
        MoireEncoder x = Check.encoder("p8;r10;r20;r30;r40;r50;r60;");
        x.moveTo(70, 2);
        x.moveTo(45, 2);
        String before = Check.state(x);
        Check.due("a full log", x.eventPosition(7), 10);
        x.moveTo(0, 2);
        Check.due("four have gone", x.eventPosition(7), 50);
        x.undo();
        Check.due("the log is back", Check.state(x), before);
        x.setMode(1);
        Check.due("empty", x.eventKind(0), -1);
        x.undo();
        Check.due("the log is back", Check.state(x), before);
    }

    private static void marksAndPitchStay() {
        MoireEncoder x = Check.encoder("p40;r10;r20;");
        x.moveTo(30, 1);
        x.setIndexGrating(8, 8);
        x.undo();
        x.undo();
        Check.due("mark 0", x.markPosition(0), 10);
        Check.due("mark 1", x.markPosition(1), 20);
        Check.due("no mark 2", x.markPosition(2), -1);
        Check.due("pitch", x.expectedCount(40), 4);
    }

    /** "The setup text is not affected." */
    private static void setupTextIsNotAffected() {
        MoireEncoder x = new MoireEncoder();
        x.moveTo(5, 1);
        Check.type(x, "p8;r5;");
        x.moveTo(10, 1);
        x.append('x');
        Check.due("undo", x.undo(), 1);
        Check.due("the text stays", x.append('y'), 8);
        Check.due("undo", x.undo(), 0);
        Check.due("the text stays", x.firstError(), 6);
        Check.due("a refused undo", x.undo(), -2);
        Check.due("the text stays", x.clearText(), 8);
        x.zeroSlip();
        Check.due("clearText is no change", x.undo(), 0);
        Check.due("still empty", x.clearText(), 0);
    }

    /** "After configure nothing can be undone." */
    private static void nothingBehindConfigure() {
        for (int made = 0; made <= 8; made++) {
            MoireEncoder x = new MoireEncoder();
            for (int n = 0; n < made; n++) {
                x.moveTo(10 * n, 1);
            }
            Check.type(x, "p8;");
            Check.due("configure", x.configure(), 0);
            Check.due("behind " + made + " changes", x.undo(), -2);
            Check.due("at 0", x.position(), 0);
            x.moveTo(5, 1);
            Check.due("one change behind it", x.undo(), 0);
            Check.due("none before it", x.undo(), -2);
        }
    }

    private static void refusedConfigureKeepsTheChanges() {
        MoireEncoder x = new MoireEncoder();
        for (int n = 1; n <= 7; n++) {
            x.moveTo(10 * n, 1);
        }
        Check.type(x, "p8;r5;r5;");
        Check.due("refused", x.configure(), -2);
        for (int left = 5; left >= 0; left--) {
            Check.due("undo", x.undo(), left);
            Check.due("place", x.position(), 10 * (left + 1));
        }
    }

    private static void readingsAreNoChanges() {
        MoireEncoder x = new MoireEncoder();
        x.moveTo(10, 1);
        Check.state(x);
        x.firstError();
        x.fastestSafeSpeed(700);
        x.brightestStart(5);
        x.append('p');
        x.clearText();
        Check.due("one change", x.undo(), 0);
        Check.due("place", x.position(), 0);
    }

    /** "... and empties the log." */
    private static void promise07EmptiesTheLog() {
        int[] modes = {1, 2, 4};
        for (int mode : modes) {
            MoireEncoder x = Scenes.full();
            Check.due("7 previous", x.setMode(mode), 4);
            for (int i = 0; i < 8; i++) {
                Check.due("7 no event " + i, x.eventKind(i), -1);
            }
            Check.due("7 previous", x.setMode(4), mode);
            Check.due("7 empty stays empty", x.eventKind(0), -1);
        }
    }

    /** "sets the counter to the expected count of the head's position in that mode" */
    private static void promise07CounterInThatMode() {
        int[] places = {0, 4, 5, 9, 10, 14, 15, 19, 20, 9999};
        int[] modes = {1, 2, 4};
        for (int place : places) {
            for (int mode : modes) {
                MoireEncoder x = Check.encoder("p20;d1,3;");
                x.moveTo(place, 99);
                x.setMode(mode);
                Check.due("7 at " + place + " in mode " + mode, x.counter(), mode * place / 20);
                Check.due("7 slip", x.slip(), 0);
                Check.due("7 place", x.position(), place);
            }
        }
    }

    /** "Returns the previous pitch" at the ends of both ranges. */
    private static void promise08FirstAndLastGratings() {
        MoireEncoder x = Check.encoder("p80;i8,79;");
        Check.due("8 previous 8", x.setIndexGrating(80, 0), 8);
        Check.due("8 previous 80", x.setIndexGrating(8, 0), 80);
        x.moveTo(40, 1);
        // The scale is clear at cells 0 to 39: the index grating alone decides.
        for (int pitch = 8; pitch <= 80; pitch += 9) {
            for (int offset = 0; offset <= 79; offset += 79) {
                x.setIndexGrating(pitch, offset);
                for (int cell = 0; cell < 10; cell++) {
                    int due = (cell + offset) % pitch < pitch / 2 ? 0 : 1;
                    Check.due("8 grating " + pitch + "," + offset, x.brightness(cell, 1), due);
                }
            }
        }
    }

    /** "CAPACITY_EXCEEDED if there are 4 dirty spans" */
    private static void promise09FromNoneToFour() {
        MoireEncoder x = Check.encoder("p20;");
        for (int round = 0; round < 2; round++) {
            for (int n = 1; n <= 4; n++) {
                Check.due("9 span " + n, x.addDirt(100 * n, 10 * n), n);
            }
            Check.due("9 a fifth", x.addDirt(0, 1), -3);
            Check.due("9 the fourth is still the last", x.removeDirt(3), 40);
            Check.due("9 and the third before it", x.removeDirt(2), 30);
            Check.due("9 room", x.addDirt(9999, 99), 3);
            Check.due("9 behind the others", x.removeDirt(2), 99);
            Check.due("10 the second", x.removeDirt(1), 20);
            Check.due("10 the first", x.removeDirt(0), 10);
            Check.due("10 none", x.removeDirt(0), -1);
        }
    }

    /** "those behind it move down by one index" */
    private static void promise10EachIndex() {
        for (int index = 0; index < 4; index++) {
            MoireEncoder x = Check.encoder("p20;d0,1;d0,2;");
            x.addDirt(0, 3);
            x.addDirt(0, 4);
            Check.due("10 index " + index, x.removeDirt(index), index + 1);
            Check.due("10 no index 3", x.removeDirt(3), -1);
            for (int left = 2; left >= 0; left--) {
                int due = left < index ? left + 1 : left + 2;
                Check.due("10 index " + left + " behind " + index, x.removeDirt(left), due);
            }
        }
    }

    /** The place of a span goes with its length. */
    private static void promise10PlacesOfTheOthers() {
        for (int index = 0; index < 4; index++) {
            for (int span = 0; span < 4; span++) {
                int place = 10 * (span + 1) + span;
                MoireEncoder x = Check.encoder("p8;d10,1;d20,2;d30,3;d40,4;");
                x.removeDirt(index);
                x.moveTo(place - 6, 1);
                long before = x.counter();
                int missed = x.moveTo(place, 6);
                boolean dirty = missed == 0 && x.counter() == before;
                Check.due("10 last place of span " + span + " without " + index, dirty, span != index);
            }
        }
    }

    /** "Returns 1 if the counter changed, else 0." */
    private static void promise11CounterChangedOrNot() {
        MoireEncoder x = Check.encoder("p20;d40,20;r100;r300;");
        Check.due("11 at 0", x.zeroSlip(), 0);
        x.moveTo(400, 5);
        Check.due("11 slip", x.slip(), -4);
        Check.due("11 below", x.zeroSlip(), 1);
        Check.due("11 counter", x.counter(), 80);
        Check.due("11 done", x.zeroSlip(), 0);
        x.moveTo(20, 5);
        Check.due("11 above", x.slip(), 4);
        Check.due("11 above", x.zeroSlip(), 1);
        Check.due("11 counter", x.counter(), 4);
        Check.due("11 the log stays", x.eventPosition(0), 100);
        Check.due("11 its counters stay", x.eventCounter(0), 20);
        Check.due("11 misses stay", x.misses(), 0);
        x.moveTo(0, 5);
        Check.due("11 no slip", x.slip(), 0);
    }
}

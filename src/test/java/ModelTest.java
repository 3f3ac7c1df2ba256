import java.util.ArrayDeque;
import java.util.ArrayList;
import java.util.Deque;
import java.util.List;
import java.util.Random;

/** Runs of calls by fixed seeds, on the encoder and on a second, plainer model of the document. */
public final class ModelTest {
    private static final int RUNS = 400;
    private static final int CALLS = 512;

    public static void main(String[] args) {
        for (int seed = 1; seed <= RUNS; seed++) {
            new Run(seed).go();
        }
        Check.finish();
    }

    /** An event of the log. */
    private record Event(int kind, int position, long counter) {
    }

    /** A dirty span. */
    private record Span(int start, int length) {
    }

    /** The document's words, written down once more, with nothing shared and nothing saved. */
    private static final class Model {
        String text = "";
        int p;
        List<Integer> marks = new ArrayList<>();
        Deque<Model> before = new ArrayDeque<>();
        int q;
        int offset;
        int mode;
        int head;
        int quadrant;
        long counter;
        int misses;
        int samples;
        List<Event> events = new ArrayList<>();
        List<Span> dirt = new ArrayList<>();

        Model() {
            text = "p20;i22,3;r400;r1000;r1740;d660,9;";
            configure();
            text = "";
        }

        private Model(Model other) {
            take(other);
        }

        private void take(Model other) {
            p = other.p;
            marks = other.marks;
            q = other.q;
            offset = other.offset;
            mode = other.mode;
            head = other.head;
            quadrant = other.quadrant;
            counter = other.counter;
            misses = other.misses;
            samples = other.samples;
            events = new ArrayList<>(other.events);
            dirt = new ArrayList<>(other.dirt);
        }

        int append(int character) {
            if (character < 32 || character > 126) {
                return -1;
            }
            if (text.length() == 200) {
                return -3;
            }
            text += (char) character;
            return text.length();
        }

        int clearText() {
            int length = text.length();
            text = "";
            return length;
        }

        int firstError() {
            return Grammar.firstError(text);
        }

        int configure() {
            if (firstError() != -4 || text.indexOf('p') < 0) {
                return -2;
            }
            q = 22;
            offset = 0;
            mode = 4;
            marks = new ArrayList<>();
            dirt.clear();
            for (String statement : text.split(";")) {
                String[] numbers = statement.substring(1).split(",");
                int a = Integer.parseInt(numbers[0]);
                switch (statement.charAt(0)) {
                    case 'p' -> p = a;
                    case 'm' -> mode = a;
                    case 'r' -> marks.add(a);
                    case 'd' -> dirt.add(new Span(a, Integer.parseInt(numbers[1])));
                    default -> {
                        q = a;
                        offset = Integer.parseInt(numbers[1]);
                    }
                }
            }
            head = 0;
            quadrant = 0;
            counter = 0;
            misses = 0;
            samples = 0;
            events.clear();
            before.clear();
            return marks.size();
        }

        private void remember() {
            before.push(new Model(this));
            if (before.size() > 6) {
                before.removeLast();
            }
        }

        private void log(int kind) {
            events.add(0, new Event(kind, head, counter));
            if (events.size() > 8) {
                events.remove(8);
            }
        }

        int expected(int x) {
            return mode * x / p;
        }

        long slip() {
            return counter - expected(head);
        }

        int moveTo(int target, int speed) {
            if (target < 0 || target > 9999 || speed < 1 || speed > 99) {
                return -1;
            }
            remember();
            int old = misses;
            while (head != target) {
                int a = head;
                for (int n = 0; n < speed && head != target; n++) {
                    head += head < target ? 1 : -1;
                }
                sample(a);
            }
            return misses - old;
        }

        private void sample(int a) {
            samples++;
            boolean dirty = false;
            for (Span span : dirt) {
                dirty |= head >= span.start && head < span.start + span.length;
            }
            if (!dirty) {
                read(4 * (head % p) / p);
            }
            int step = a < head ? 1 : -1;
            for (int x = a; x != head; ) {
                x += step;
                if (marks.contains(x)) {
                    log(0);
                }
            }
        }

        private void read(int next) {
            String boundary = switch ((next - quadrant + 4) % 4) {
                case 1 -> quadrant + "" + next;
                case 3 -> next + "" + quadrant;
                default -> "";
            };
            boolean counts = switch (mode) {
                case 1 -> boundary.equals("30");
                case 2 -> boundary.equals("30") || boundary.equals("12");
                default -> !boundary.isEmpty();
            };
            if (counts) {
                counter += boundary.startsWith("" + quadrant) ? 1 : -1;
            }
            if (Math.abs(next - quadrant) == 2) {
                misses++;
                if (events.isEmpty() || events.get(0).kind == 0) {
                    log(1);
                }
            }
            quadrant = next;
        }

        int setMode(int next) {
            if (next != 1 && next != 2 && next != 4) {
                return -1;
            }
            remember();
            int old = mode;
            mode = next;
            counter = expected(head);
            events.clear();
            return old;
        }

        int setIndexGrating(int pitch, int shift) {
            if (pitch < 8 || pitch > 80 || shift < 0 || shift > 79) {
                return -1;
            }
            remember();
            int old = q;
            q = pitch;
            offset = shift;
            return old;
        }

        int addDirt(int start, int length) {
            if (start < 0 || start > 9999 || length < 1 || length > 99) {
                return -1;
            }
            if (dirt.size() == 4) {
                return -3;
            }
            remember();
            dirt.add(new Span(start, length));
            return dirt.size();
        }

        int removeDirt(int index) {
            if (index < 0 || index >= dirt.size()) {
                return -1;
            }
            remember();
            return dirt.remove(index).length;
        }

        int zeroSlip() {
            remember();
            int changed = slip() != 0 ? 1 : 0;
            counter = expected(head);
            return changed;
        }

        int recover(int tolerance) {
            if (tolerance < 0 || tolerance > 9) {
                return -1;
            }
            List<Long> counters = new ArrayList<>();
            for (Event event : events) {
                if (event.kind == 0) {
                    counters.add(event.counter);
                }
            }
            if (counters.size() < 2) {
                return -2;
            }
            long c2 = counters.get(0);
            long c1 = counters.get(1);
            List<Integer> pairs = new ArrayList<>();
            for (int i = 0; i < marks.size() - 1; i++) {
                long due = expected(marks.get(i + 1)) - expected(marks.get(i));
                if (Math.abs(Math.abs(c2 - c1) - due) <= tolerance) {
                    pairs.add(i);
                }
            }
            if (pairs.size() != 1) {
                return pairs.isEmpty() ? -4 : -5;
            }
            remember();
            int mark = pairs.get(0) + (c2 > c1 ? 1 : 0);
            counter += expected(marks.get(mark)) - c2;
            return mark;
        }

        int undo() {
            if (before.isEmpty()) {
                return -2;
            }
            take(before.pop());
            return before.size();
        }

        long predictSlip(int target, int speed) {
            Model copy = new Model(this);
            return copy.moveTo(target, speed) < 0 ? Long.MIN_VALUE : copy.slip();
        }

        int fastestSafeSpeed(int target) {
            if (target < 0 || target > 9999) {
                return -1;
            }
            for (int speed = 99; speed >= 1; speed--) {
                Model copy = new Model(this);
                if (copy.moveTo(target, speed) == 0 && copy.slip() == slip()) {
                    return speed;
                }
            }
            return -4;
        }

        int brightness(int start, int width) {
            if (start < 0 || start > 999 || width < 1 || width > 200) {
                return -1;
            }
            int count = 0;
            for (int c = start; c <= start + width - 1; c++) {
                boolean dark = (head + c) % p < p / 2 || (c + offset) % q < q / 2;
                count += dark ? 0 : 1;
            }
            return count;
        }

        int brightestStart(int width) {
            int best = brightness(0, width) < 0 ? -1 : 0;
            for (int start = 199; start >= 0 && best >= 0; start--) {
                best = brightness(start, width) >= brightness(best, width) && start != best
                        && (start < best || brightness(start, width) > brightness(best, width))
                        ? start : best;
            }
            return best;
        }

        int fringePart(boolean numerator) {
            int above = p * q;
            int below = Math.abs(p - q);
            for (int divisor = below; divisor > 0; divisor--) {
                if (above % divisor == 0 && below % divisor == 0) {
                    return (numerator ? above : below) / divisor;
                }
            }
            return -4;
        }

        int overlay() {
            int period = p;
            while (period % q != 0) {
                period += p;
            }
            return period;
        }
    }

    /** One run: an encoder, a model, and a seed that says which calls come. */
    private static final class Run {
        private final int seed;
        private final Random random;
        private final MoireEncoder encoder = new MoireEncoder();
        private final Model model = new Model();
        private int calls = 0;

        Run(int seed) {
            this.seed = seed;
            this.random = new Random(seed);
        }

        void go() {
            if (random.nextInt(4) > 0) {
                typeSetup();
            }
            while (calls < CALLS) {
                if (random.nextInt(60) == 0) {
                    typeSetup();
                } else if (random.nextInt(3) == 0) {
                    change();
                } else {
                    read();
                }
            }
        }

        private void due(String call, long got, long want) {
            calls++;
            if (calls <= CALLS) {
                Check.due("seed " + seed + " call " + calls + " " + call, got, want);
            }
        }

        private int pick(int least, int greatest) {
            return switch (random.nextInt(24)) {
                case 0 -> least;
                case 1 -> greatest;
                case 2 -> random.nextInt(8) > 0 ? greatest - 1 : least - 1;
                case 3 -> random.nextInt(8) > 0 ? least + 1 : greatest + 1;
                case 4 -> random.nextInt(8) > 0 ? least : random.nextInt();
                default -> least + random.nextInt(greatest - least + 1);
            };
        }

        private void typeSetup() {
            due("clearText", encoder.clearText(), model.clearText());
            StringBuilder text = new StringBuilder();
            int mark = random.nextInt(50);
            int count = random.nextInt(12);
            text.append("p").append(4 * pick(2, 20)).append(';');
            for (int n = 0; n < count; n++) {
                switch (random.nextInt(8)) {
                    case 0 -> text.append("p").append(4 * pick(2, 20)).append(';');
                    case 1 -> text.append("i").append(pick(8, 80)).append(',').append(pick(0, 79)).append(';');
                    case 2 -> text.append("m").append(1 << random.nextInt(3)).append(';');
                    case 3 -> text.append("d").append(pick(0, 999)).append(',').append(pick(1, 99)).append(';');
                    default -> {
                        text.append("r").append(mark).append(';');
                        mark += 1 + random.nextInt(random.nextBoolean() ? 20 : 1500);
                    }
                }
            }
            if (random.nextInt(4) == 0) {
                String signs = "pimrd0123456789,;; x-";
                int place = random.nextInt(text.length());
                text.setCharAt(place, signs.charAt(random.nextInt(signs.length())));
            }
            for (int i = 0; i < text.length(); i++) {
                due("append", encoder.append(text.charAt(i)), model.append(text.charAt(i)));
            }
            due("firstError " + text, encoder.firstError(), model.firstError());
            due("configure " + text, encoder.configure(), model.configure());
        }

        private int somePlace() {
            if (!model.marks.isEmpty() && random.nextInt(3) == 0) {
                int mark = model.marks.get(random.nextInt(model.marks.size()));
                return Math.min(9999, Math.max(0, mark + random.nextInt(61) - 30));
            }
            return random.nextBoolean() ? pick(0, 9999) : pick(0, 500);
        }

        private int someSpeed() {
            return random.nextBoolean() ? 1 + random.nextInt(1 + model.p / 4) : pick(1, 99);
        }

        private void change() {
            int a = somePlace();
            int speed = someSpeed();
            switch (random.nextInt(14)) {
                case 0 -> {
                    int mode = pick(0, 5);
                    due("setMode " + mode, encoder.setMode(mode), model.setMode(mode));
                }
                case 1 -> {
                    int pitch = pick(8, 80);
                    int offset = pick(0, 79);
                    due("setIndexGrating", encoder.setIndexGrating(pitch, offset), model.setIndexGrating(pitch, offset));
                }
                case 2 -> {
                    int length = pick(1, 99);
                    due("addDirt " + a, encoder.addDirt(a, length), model.addDirt(a, length));
                }
                case 3 -> {
                    int index = pick(0, 3);
                    due("removeDirt " + index, encoder.removeDirt(index), model.removeDirt(index));
                }
                case 4 -> due("zeroSlip", encoder.zeroSlip(), model.zeroSlip());
                case 5, 6, 7 -> {
                    int tolerance = pick(0, 9);
                    due("recover " + tolerance, encoder.recover(tolerance), model.recover(tolerance));
                }
                case 8, 9 -> due("undo", encoder.undo(), model.undo());
                default -> due("moveTo " + a + " " + speed, encoder.moveTo(a, speed), model.moveTo(a, speed));
            }
            due("counter", encoder.counter(), model.counter);
        }

        private void read() {
            int index = pick(0, 7);
            Event event = index >= 0 && index < model.events.size() ? model.events.get(index) : null;
            switch (random.nextInt(16)) {
                case 0 -> due("position", encoder.position(), model.head);
                case 1 -> due("slip", encoder.slip(), model.slip());
                case 2 -> due("misses", encoder.misses(), model.misses);
                case 3 -> due("samples", encoder.samples(), model.samples);
                case 4 -> due("missRateBits", encoder.missRateBits(), model.samples == 0 ? -4
                        : Float.floatToIntBits((float) model.misses / (float) model.samples));
                case 5 -> due("markPosition " + index, encoder.markPosition(index),
                        index >= 0 && index < model.marks.size() ? model.marks.get(index) : -1);
                case 6 -> {
                    int x = pick(0, 9999);
                    due("expectedCount", encoder.expectedCount(x), x < 0 || x > 9999 ? -1 : model.expected(x));
                }
                case 7 -> due("eventKind " + index, encoder.eventKind(index), event == null ? -1 : event.kind);
                case 8 -> due("eventPosition " + index, encoder.eventPosition(index),
                        event == null ? -1 : event.position);
                case 9 -> due("eventCounter " + index, encoder.eventCounter(index),
                        event == null ? Long.MIN_VALUE : event.counter);
                case 10 -> {
                    int target = somePlace();
                    int speed = someSpeed();
                    due("predictSlip", encoder.predictSlip(target, speed), model.predictSlip(target, speed));
                }
                case 11 -> {
                    int target = random.nextInt(10) == 0 ? somePlace() : pick(0, 300);
                    due("fastestSafeSpeed " + target, encoder.fastestSafeSpeed(target), model.fastestSafeSpeed(target));
                }
                case 12 -> {
                    int start = pick(0, 999);
                    int width = pick(1, 200);
                    due("brightness", encoder.brightness(start, width), model.brightness(start, width));
                }
                case 13 -> {
                    int width = pick(1, 200);
                    due("brightestStart", encoder.brightestStart(width), model.brightestStart(width));
                }
                default -> readFringes();
            }
        }

        private void readFringes() {
            due("overlayPeriod", encoder.overlayPeriod(), model.overlay());
            due("numerator", encoder.fringePeriodNumerator(), model.fringePart(true));
            due("denominator", encoder.fringePeriodDenominator(), model.fringePart(false));
            int difference = Math.abs(model.p - model.q);
            due("magnificationBits", encoder.magnificationBits(), difference == 0 ? -4
                    : Float.floatToIntBits((float) model.q / (float) difference));
            int rise = pick(1, 99);
            int run = pick(1, 999);
            boolean valid = rise >= 1 && rise <= 99 && run >= 1 && run <= 999;
            due("crossedSpacingBits", encoder.crossedSpacingBits(rise, run),
                    valid ? Float.floatToIntBits((float) model.p * (float) run / (float) rise) : -1);
        }
    }
}

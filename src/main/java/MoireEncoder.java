/**
 * A simulator of an incremental optical encoder: a scale grating, an index grating that forms
 * moire fringes with it, and a quadrature counter with reference marks.
 */
public final class MoireEncoder {
    public static final int INVALID_ARGUMENT = -1;
    public static final int NOT_POSSIBLE = -2;
    public static final int CAPACITY_EXCEEDED = -3;
    public static final int NOT_FOUND = -4;
    public static final int AMBIGUOUS = -5;
    public static final int MARK = 0;
    public static final int MISS = 1;

    private static final String FIRST_SETUP = "p20;i22,3;r400;r1000;r1740;d660,9;";
    private static final int TEXT_LIMIT = 200;
    private static final int MARK_LIMIT = 6;
    private static final int DIRT_LIMIT = 4;
    private static final int LOG_LIMIT = 8;
    private static final int UNDO_LIMIT = 6;
    private static final int LAST_POSITION = 9999;
    private static final int TOP_SPEED = 99;
    private static final int WIDEST_WINDOW = 200;
    private static final int LAST_WINDOW_START = 199;

    private final Row text = new Row(TEXT_LIMIT);
    private final Setup draft = new Setup();
    private final Row marks = new Row(MARK_LIMIT);
    private final History history = new History();
    private final Decoder trial = new Decoder();
    private State now = new State();
    private int pitch;

    public MoireEncoder() {
        for (int i = 0; i < FIRST_SETUP.length(); i++) {
            text.add(FIRST_SETUP.charAt(i));
        }
        readSetup();
        startFromDraft();
        text.clear();
    }

    // ---- the setup text ----

    public int append(int character) {
        if (!within(character, 32, 126)) {
            return INVALID_ARGUMENT;
        }
        if (text.isFull()) {
            return CAPACITY_EXCEEDED;
        }
        text.add(character);
        return text.size();
    }

    public int clearText() {
        int length = text.size();
        text.clear();
        return length;
    }

    public int firstError() {
        return readSetup();
    }

    public int configure() {
        if (readSetup() != NOT_FOUND || draft.pitch == 0) {
            return NOT_POSSIBLE;
        }
        startFromDraft();
        return marks.size();
    }

    /** Reads the text into the draft; answers where its first invalid statement begins. */
    private int readSetup() {
        draft.reset();
        int start = 0;
        for (int n = 0; n < TEXT_LIMIT && start < text.size(); n++) {
            int end = readStatement(start);
            if (end < 0) {
                return start;
            }
            start = end;
        }
        return NOT_FOUND;
    }

    /** Answers the index behind the statement, or INVALID_ARGUMENT. */
    private int readStatement(int start) {
        // Behind its end the text reads as 0, which is no sign of any statement.
        int letter = text.intAt(start);
        int first = numberAt(start + 1);
        int end = start + 1 + digitsFrom(start + 1);
        int second = 0;
        if (letter == 'i' || letter == 'd') {
            if (text.intAt(end) != ',') {
                return INVALID_ARGUMENT;
            }
            second = numberAt(end + 1);
            end = end + 1 + digitsFrom(end + 1);
        }
        boolean formed = first >= 0 && second >= 0 && text.intAt(end) == ';';
        return formed && draft.take(letter, first, second) ? end + 1 : INVALID_ARGUMENT;
    }

    private int digitsFrom(int start) {
        int count = 0;
        while (count < TEXT_LIMIT && within(text.intAt(start + count), '0', '9')) {
            count++;
        }
        return count;
    }

    /** Answers the number that begins there, or INVALID_ARGUMENT if it has not 1 to 4 digits. */
    private int numberAt(int start) {
        int digits = digitsFrom(start);
        if (!within(digits, 1, 4)) {
            return INVALID_ARGUMENT;
        }
        int value = 0;
        for (int i = 0; i < digits; i++) {
            value = value * 10 + text.intAt(start + i) - '0';
        }
        return value;
    }

    private void startFromDraft() {
        pitch = draft.pitch;
        marks.copyFrom(draft.marks);
        now.startFrom(draft);
        history.forgetAll();
    }

    // ---- the changes ----

    public int moveTo(int target, int speed) {
        if (!isMove(target, speed)) {
            return INVALID_ARGUMENT;
        }
        history.remember(now);
        int missesBefore = now.decoder.misses;
        int from = now.head;
        int count = sampleCount(from, target, speed);
        for (int n = 1; n <= count; n++) {
            takeSample(samplePosition(from, target, n * speed));
        }
        return now.decoder.misses - missesBefore;
    }

    public int setMode(int mode) {
        if (!isMode(mode)) {
            return INVALID_ARGUMENT;
        }
        history.remember(now);
        int previous = now.mode;
        now.mode = mode;
        now.decoder.counter = countAt(now.head);
        now.log.clear();
        return previous;
    }

    public int setIndexGrating(int pitch, int offset) {
        if (!isIndexGrating(pitch, offset)) {
            return INVALID_ARGUMENT;
        }
        history.remember(now);
        int previous = now.indexPitch;
        now.indexPitch = pitch;
        now.indexOffset = offset;
        return previous;
    }

    public int addDirt(int start, int length) {
        if (!isDirt(start, length)) {
            return INVALID_ARGUMENT;
        }
        if (now.dirt.isFull()) {
            return CAPACITY_EXCEEDED;
        }
        history.remember(now);
        now.dirt.add(start, length);
        return now.dirt.starts.size();
    }

    public int removeDirt(int index) {
        if (!now.dirt.starts.has(index)) {
            return INVALID_ARGUMENT;
        }
        history.remember(now);
        int length = now.dirt.lengths.intAt(index);
        now.dirt.removeAt(index);
        return length;
    }

    public int zeroSlip() {
        history.remember(now);
        long before = now.decoder.counter;
        now.decoder.counter = countAt(now.head);
        return now.decoder.counter != before ? 1 : 0;
    }

    public int recover(int tolerance) {
        if (!within(tolerance, 0, 9)) {
            return INVALID_ARGUMENT;
        }
        int newest = now.log.markEventFrom(0);
        int earlier = newest < 0 ? NOT_FOUND : now.log.markEventFrom(newest + 1);
        if (earlier < 0) {
            return NOT_POSSIBLE;
        }
        long c2 = now.log.counters.longAt(newest);
        long c1 = now.log.counters.longAt(earlier);
        int pair = matchingPair(Math.abs(c2 - c1), tolerance);
        if (pair < 0) {
            return pair;
        }
        int mark = c2 > c1 ? pair + 1 : pair;
        history.remember(now);
        now.decoder.counter += countAt(marks.intAt(mark)) - c2;
        return mark;
    }

    public int undo() {
        if (history.size == 0) {
            return NOT_POSSIBLE;
        }
        now = history.takeBack(now);
        return history.size;
    }

    /** Answers the only pair of marks that matches, NOT_FOUND or AMBIGUOUS. */
    private int matchingPair(long difference, int tolerance) {
        int found = NOT_FOUND;
        for (int i = 0; i + 1 < marks.size(); i++) {
            int expected = countAt(marks.intAt(i + 1)) - countAt(marks.intAt(i));
            // Two comparisons, for the absolute value of the least long would be negative.
            if (difference >= expected - tolerance && difference <= expected + tolerance) {
                if (found != NOT_FOUND) {
                    return AMBIGUOUS;
                }
                found = i;
            }
        }
        return found;
    }

    // ---- the samples of a move ----

    private static int sampleCount(int from, int target, int speed) {
        return quotient(Math.abs(target - from) + speed - 1, speed);
    }

    /** Answers where the head is when it has gone that far, but never beyond the target. */
    private static int samplePosition(int from, int target, int gone) {
        if (gone >= Math.abs(target - from)) {
            return target;
        }
        return from < target ? from + gone : from - gone;
    }

    private void takeSample(int sample) {
        now.samples++;
        if (readSample(now.decoder, sample) && now.log.wantsMiss()) {
            now.log.add(MISS, sample, now.decoder.counter);
        }
        logPassedMarks(now.head, sample);
        now.head = sample;
    }

    /** Lets a decoder read the scale there; answers whether it missed a transition. */
    private boolean readSample(Decoder decoder, int sample) {
        return !now.dirt.covers(sample) && decoder.read(quadrantAt(sample), now.mode);
    }

    private void logPassedMarks(int before, int sample) {
        boolean forwards = before < sample;
        int count = marks.size();
        for (int i = 0; i < count; i++) {
            int mark = marks.intAt(forwards ? i : count - 1 - i);
            boolean passed = forwards
                    ? mark > before && mark <= sample
                    : mark < before && mark >= sample;
            if (passed) {
                now.log.add(MARK, sample, now.decoder.counter);
            }
        }
    }

    // ---- what the encoder tells ----

    public int position() {
        return now.head;
    }

    public long counter() {
        return now.decoder.counter;
    }

    public long slip() {
        return now.decoder.counter - countAt(now.head);
    }

    public int misses() {
        return now.decoder.misses;
    }

    public int samples() {
        return now.samples;
    }

    public int missRateBits() {
        if (now.samples <= 0) {
            return NOT_FOUND;
        }
        return bitsOf((float) now.decoder.misses / (float) now.samples);
    }

    public int markPosition(int index) {
        return marks.has(index) ? marks.intAt(index) : INVALID_ARGUMENT;
    }

    public int expectedCount(int position) {
        return isPosition(position) ? countAt(position) : INVALID_ARGUMENT;
    }

    public int eventKind(int index) {
        return now.log.kinds.has(index) ? now.log.kinds.intAt(index) : INVALID_ARGUMENT;
    }

    public int eventPosition(int index) {
        return now.log.positions.has(index) ? now.log.positions.intAt(index) : INVALID_ARGUMENT;
    }

    public long eventCounter(int index) {
        return now.log.counters.has(index) ? now.log.counters.longAt(index) : Long.MIN_VALUE;
    }

    private int countAt(int position) {
        return quotient(now.mode * position, pitch);
    }

    private int quadrantAt(int position) {
        return quotient(4 * remainder(position, pitch), pitch);
    }

    // ---- what a move would do ----

    public long predictSlip(int target, int speed) {
        if (!isMove(target, speed)) {
            return Long.MIN_VALUE;
        }
        trial.copyFrom(now.decoder);
        int count = sampleCount(now.head, target, speed);
        for (int n = 1; n <= count; n++) {
            readSample(trial, samplePosition(now.head, target, n * speed));
        }
        return trial.counter - countAt(target);
    }

    public int fastestSafeSpeed(int target) {
        if (!isPosition(target)) {
            return INVALID_ARGUMENT;
        }
        for (int speed = TOP_SPEED; speed >= 1; speed--) {
            if (isSafe(target, speed)) {
                return speed;
            }
        }
        return NOT_FOUND;
    }

    private boolean isSafe(int target, int speed) {
        trial.copyFrom(now.decoder);
        int count = sampleCount(now.head, target, speed);
        for (int n = 1; n <= count; n++) {
            if (readSample(trial, samplePosition(now.head, target, n * speed))) {
                return false;
            }
        }
        return trial.counter - countAt(target) == now.decoder.counter - countAt(now.head);
    }

    // ---- the fringes ----

    public int brightness(int start, int width) {
        if (!within(start, 0, 999) || !within(width, 1, WIDEST_WINDOW)) {
            return INVALID_ARGUMENT;
        }
        return brightCells(start, width);
    }

    public int brightestStart(int width) {
        if (!within(width, 1, WIDEST_WINDOW)) {
            return INVALID_ARGUMENT;
        }
        int bright = brightCells(0, width);
        int most = bright;
        int best = 0;
        for (int start = 1; start <= LAST_WINDOW_START; start++) {
            bright += brightCells(start + width - 1, 1) - brightCells(start - 1, 1);
            if (bright > most) {
                most = bright;
                best = start;
            }
        }
        return best;
    }

    public int overlayPeriod() {
        return quotient(pitch * now.indexPitch, commonDivisor(pitch, now.indexPitch));
    }

    public int fringePeriodNumerator() {
        return inLowestTerms(pitch * now.indexPitch);
    }

    public int fringePeriodDenominator() {
        return inLowestTerms(pitchDifference());
    }

    public int magnificationBits() {
        int difference = pitchDifference();
        if (difference == 0) {
            return NOT_FOUND;
        }
        return bitsOf((float) now.indexPitch / (float) difference);
    }

    public int crossedSpacingBits(int rise, int run) {
        if (!within(rise, 1, 99) || !within(run, 1, 999)) {
            return INVALID_ARGUMENT;
        }
        return bitsOf((float) pitch * (float) run / (float) rise);
    }

    private int brightCells(int start, int width) {
        int count = 0;
        for (int cell = start; cell < start + width; cell++) {
            if (isClear(now.head + cell, pitch) && isClear(cell + now.indexOffset, now.indexPitch)) {
                count++;
            }
        }
        return count;
    }

    private static boolean isClear(int place, int gratingPitch) {
        return remainder(place, gratingPitch) >= gratingPitch / 2;
    }

    private int pitchDifference() {
        return Math.abs(pitch - now.indexPitch);
    }

    /** Reduces one part of the mean fringe period by what both parts have in common. */
    private int inLowestTerms(int part) {
        int difference = pitchDifference();
        if (difference == 0) {
            return NOT_FOUND;
        }
        return quotient(part, commonDivisor(pitch * now.indexPitch, difference));
    }

    // ---- numbers ----

    private static boolean within(int value, int least, int greatest) {
        return value >= least && value <= greatest;
    }

    private static boolean isPosition(int position) {
        return within(position, 0, LAST_POSITION);
    }

    private static boolean isMove(int target, int speed) {
        return isPosition(target) && within(speed, 1, TOP_SPEED);
    }

    private static boolean isMode(int mode) {
        return mode == 1 || mode == 2 || mode == 4;
    }

    private static boolean isScalePitch(int pitch) {
        return within(pitch, 8, 80) && pitch % 4 == 0;
    }

    private static boolean isIndexGrating(int pitch, int offset) {
        return within(pitch, 8, 80) && within(offset, 0, 79);
    }

    private static boolean isDirt(int start, int length) {
        return isPosition(start) && within(length, 1, 99);
    }

    private static int quotient(int dividend, int divisor) {
        return divisor > 0 ? dividend / divisor : 0;
    }

    private static int remainder(int dividend, int divisor) {
        return divisor > 0 ? dividend % divisor : 0;
    }

    private static int commonDivisor(int one, int other) {
        int greater = one;
        int less = other;
        // No two numbers of these sizes need more than some twenty steps.
        for (int step = 0; step < 64 && less > 0; step++) {
            int rest = greater % less;
            greater = less;
            less = rest;
        }
        return greater;
    }

    /**
     * Answers the bits of a float that is 0 or a normal number above 0. The library's own
     * function is outside the part of Java that the program keeps to; every step here is exact.
     */
    private static int bitsOf(float value) {
        if (value <= 0.0f) {
            return 0;
        }
        float scaled = value;
        int exponent = 127;
        for (int step = 0; step < 127 && scaled >= 2.0f; step++) {
            scaled = scaled / 2.0f;
            exponent++;
        }
        for (int step = 0; step < 127 && scaled < 1.0f; step++) {
            scaled = scaled * 2.0f;
            exponent--;
        }
        return (exponent << 23) + (int) ((scaled - 1.0f) * 8388608.0f);
    }

    // ---- the parts of an encoder ----

    /** Numbers in a row, up to a fixed capacity: the one place where an index is used. */
    private static final class Row {
        private final long[] cells;
        private int size;

        Row(int capacity) {
            cells = new long[Math.max(capacity, 1)];
        }

        int size() {
            return size;
        }

        boolean isFull() {
            return size >= cells.length;
        }

        boolean has(int index) {
            return index >= 0 && index < size && index < cells.length;
        }

        long longAt(int index) {
            return has(index) ? cells[index] : 0;
        }

        int intAt(int index) {
            return (int) longAt(index);
        }

        void add(long value) {
            if (size >= 0 && size < cells.length) {
                cells[size] = value;
                size++;
            }
        }

        /** Puts a value before the others; in a full row the last one falls out. */
        void addFirst(long value) {
            if (size < cells.length) {
                size++;
            }
            for (int i = cells.length - 1; i > 0; i--) {
                cells[i] = cells[i - 1];
            }
            if (cells.length > 0) {
                cells[0] = value;
            }
        }

        void removeAt(int index) {
            if (has(index)) {
                for (int i = index; i + 1 < cells.length; i++) {
                    cells[i] = cells[i + 1];
                }
                size--;
            }
        }

        void clear() {
            size = 0;
        }

        void copyFrom(Row other) {
            size = 0;
            for (int i = 0; i < other.size; i++) {
                add(other.longAt(i));
            }
        }
    }

    /** The dirty spans of the scale, in the order in which they were stated and added. */
    private static final class Dirt {
        private final Row starts = new Row(DIRT_LIMIT);
        private final Row lengths = new Row(DIRT_LIMIT);

        boolean isFull() {
            return starts.isFull();
        }

        void add(int start, int length) {
            starts.add(start);
            lengths.add(length);
        }

        void removeAt(int index) {
            starts.removeAt(index);
            lengths.removeAt(index);
        }

        boolean covers(int position) {
            for (int i = 0; i < starts.size(); i++) {
                int start = starts.intAt(i);
                if (position >= start && position < start + lengths.intAt(i)) {
                    return true;
                }
            }
            return false;
        }

        void clear() {
            starts.clear();
            lengths.clear();
        }

        void copyFrom(Dirt other) {
            starts.copyFrom(other.starts);
            lengths.copyFrom(other.lengths);
        }
    }

    /** The newest events, the newest of them first. */
    private static final class Log {
        private final Row kinds = new Row(LOG_LIMIT);
        private final Row positions = new Row(LOG_LIMIT);
        private final Row counters = new Row(LOG_LIMIT);

        void add(int kind, int position, long counter) {
            kinds.addFirst(kind);
            positions.addFirst(position);
            counters.addFirst(counter);
        }

        /** A miss behind a miss would only drive the marks out of the log. */
        boolean wantsMiss() {
            return kinds.size() == 0 || kinds.intAt(0) == MARK;
        }

        /** Answers the index of the first mark event from there on, or NOT_FOUND. */
        int markEventFrom(int start) {
            for (int i = start; i < kinds.size(); i++) {
                if (kinds.intAt(i) == MARK) {
                    return i;
                }
            }
            return NOT_FOUND;
        }

        void clear() {
            kinds.clear();
            positions.clear();
            counters.clear();
        }

        void copyFrom(Log other) {
            kinds.copyFrom(other.kinds);
            positions.copyFrom(other.positions);
            counters.copyFrom(other.counters);
        }
    }

    /** The quadrature decoder: what it has read last, counted and missed. */
    private static final class Decoder {
        private int quadrant;
        private long counter;
        private int misses;

        /** Reads a quadrant; answers whether a transition was missed. */
        boolean read(int next, int mode) {
            int last = quadrant;
            int turn = (next - last + 4) % 4;
            quadrant = next;
            if (turn == 1 && counts(next, mode)) {
                counter++;
            }
            if (turn == 3 && counts(last, mode)) {
                counter--;
            }
            if (turn == 2) {
                misses++;
            }
            return turn == 2;
        }

        /** A boundary is named by the quadrant that lies behind it, seen forwards. */
        private static boolean counts(int behind, int mode) {
            return mode == 4 || behind == 0 || mode == 2 && behind == 2;
        }

        void reset() {
            quadrant = 0;
            counter = 0;
            misses = 0;
        }

        void copyFrom(Decoder other) {
            quadrant = other.quadrant;
            counter = other.counter;
            misses = other.misses;
        }
    }

    /** All that a change can alter and an undo brings back. */
    private static final class State {
        private final Decoder decoder = new Decoder();
        private final Log log = new Log();
        private final Dirt dirt = new Dirt();
        private int head;
        private int samples;
        private int mode;
        private int indexPitch;
        private int indexOffset;

        void startFrom(Setup setup) {
            decoder.reset();
            log.clear();
            dirt.copyFrom(setup.dirt);
            head = 0;
            samples = 0;
            mode = setup.mode;
            indexPitch = setup.indexPitch;
            indexOffset = setup.indexOffset;
        }

        void copyFrom(State other) {
            decoder.copyFrom(other.decoder);
            log.copyFrom(other.log);
            dirt.copyFrom(other.dirt);
            head = other.head;
            samples = other.samples;
            mode = other.mode;
            indexPitch = other.indexPitch;
            indexOffset = other.indexOffset;
        }
    }

    /** The states before the newest changes, the oldest first; its states are used again. */
    private static final class History {
        private final State[] states = new State[UNDO_LIMIT];
        private int size;

        History() {
            for (int i = 0; i < states.length; i++) {
                states[i] = new State();
            }
        }

        void remember(State state) {
            if (size >= states.length) {
                dropOldest();
            }
            if (size >= 0 && size < states.length && states[size] != null) {
                states[size].copyFrom(state);
                size++;
            }
        }

        /** Answers the newest state and keeps the one that is undone as room for a later one. */
        State takeBack(State undone) {
            int newest = size - 1;
            if (newest < 0 || newest >= states.length || states[newest] == null) {
                return undone;
            }
            State before = states[newest];
            states[newest] = undone;
            size = newest;
            return before;
        }

        void forgetAll() {
            size = 0;
        }

        private void dropOldest() {
            if (states.length > 0) {
                State oldest = states[0];
                for (int i = 0; i + 1 < states.length; i++) {
                    states[i] = states[i + 1];
                }
                states[states.length - 1] = oldest;
                size = states.length - 1;
            }
        }
    }

    /** What the statements of a setup text have stated so far. */
    private static final class Setup {
        private final Row marks = new Row(MARK_LIMIT);
        private final Dirt dirt = new Dirt();
        private int pitch;
        private int indexPitch;
        private int indexOffset;
        private int mode;

        void reset() {
            marks.clear();
            dirt.clear();
            pitch = 0;
            indexPitch = 22;
            indexOffset = 0;
            mode = 4;
        }

        /** Takes a statement with its numbers; answers whether it is valid. */
        boolean take(int letter, int first, int second) {
            switch (letter) {
                case 'p':
                    pitch = first;
                    return isScalePitch(first);
                case 'i':
                    indexPitch = first;
                    indexOffset = second;
                    return isIndexGrating(first, second);
                case 'm':
                    mode = first;
                    return isMode(first);
                case 'r':
                    return takeMark(first);
                case 'd':
                    return takeDirt(first, second);
                default:
                    return false;
            }
        }

        private boolean takeMark(int position) {
            boolean rising = marks.size() == 0 || position > marks.intAt(marks.size() - 1);
            if (marks.isFull() || !rising || !isPosition(position)) {
                return false;
            }
            marks.add(position);
            return true;
        }

        private boolean takeDirt(int start, int length) {
            if (dirt.isFull() || !isDirt(start, length)) {
                return false;
            }
            dirt.add(start, length);
            return true;
        }
    }
}

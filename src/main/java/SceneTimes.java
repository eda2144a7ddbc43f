/**
 * The scene's time line: notes of several writers of things at a second, known from a second on,
 * corrected and struck by later acts, and asked for as known at any second.
 */
public final class SceneTimes {
    private static final int LAST_SECOND = 99_999;
    private static final int LONGEST_TICK = 5_000;
    private static final int MAX_WRITERS = 10;
    private static final int MAX_NOTES = 100;
    private static final int MAX_ACTS = 200;
    private static final int MAX_VALUE = 9_999;
    private static final int KINDS = 6;
    private static final int SECTORS = 10;
    private static final int KIND_READING = 2;
    private static final int ANY = -1;
    private static final int NONE = -1;

    private final Line line = new Line();
    private final Question question = new Question();
    private final Sheet sheet = new Sheet();
    private int second;
    private int writers;
    private int acts;

    public SceneTimes() {
    }

    public int writer() throws UnsupportedOperationException {
        if (writers >= MAX_WRITERS) {
            throw new UnsupportedOperationException("no room for a writer");
        }
        writers++;
        return writers - 1;
    }

    public int note(int writer, int kind, int sector, int t, int value)
            throws IllegalArgumentException, IndexOutOfBoundsException, UnsupportedOperationException {
        if (!isWriter(writer) || !isKind(kind) || !isSector(sector)) {
            throw new IllegalArgumentException("no such writer, kind or sector");
        }
        if (!hasCome(t) || !isValue(value)) {
            throw new IndexOutOfBoundsException("the second or the value");
        }
        if (line.size >= MAX_NOTES) {
            throw new UnsupportedOperationException("no room for a note");
        }
        Note written = new Note(line.size, writer, kind, sector, t, value, second);
        line.take(written);
        return written.number;
    }

    public int correct(int note, int value)
            throws IllegalArgumentException, IndexOutOfBoundsException, IllegalStateException,
                    UnsupportedOperationException {
        Note meant = noteOf(note);
        if (!isValue(value)) {
            throw new IndexOutOfBoundsException("the value");
        }
        if (meant.latest.struck) {
            throw new IllegalStateException("the note is struck");
        }
        refuseActWithoutRoom();
        meant.takeValue(second, value);
        acts++;
        return meant.corrections;
    }

    public void strike(int note, boolean on)
            throws IllegalArgumentException, IllegalStateException, UnsupportedOperationException {
        Note meant = noteOf(note);
        if (meant.latest.struck == on) {
            throw new IllegalStateException("the note is so already");
        }
        refuseActWithoutRoom();
        meant.takeStrike(second, on);
        acts++;
    }

    public int ask(int from, int to, int kind, int sector, int known)
            throws IllegalArgumentException, IndexOutOfBoundsException {
        if ((kind != ANY && !isKind(kind)) || (sector != ANY && !isSector(sector))) {
            throw new IllegalArgumentException("no such kind or sector");
        }
        if (!hasCome(known)) {
            throw new IndexOutOfBoundsException("the second of knowing");
        }
        question.begin(known);
        for (int i = 0; i < line.size; i++) {
            Note each = line.inOrder[i];
            if (each.first.from <= known && each.isWithin(from, to) && each.isOf(kind, sector)) {
                question.take(each);
            }
        }
        return question.size;
    }

    public int row(int i, int what) throws IllegalArgumentException {
        if (i < 0 || i >= question.size) {
            throw new IllegalArgumentException("no such row");
        }
        Note shown = question.rows[i];
        switch (what) {
            case 0:
                return shown.number;
            case 1:
                return shown.second;
            case 2:
                return shown.stateAt(question.known).value;
            case 3:
                return oneIf(shown.stateAt(question.known).struck);
            case 4:
                return shown.writer;
            default:
                throw new IllegalArgumentException("no such what");
        }
    }

    public int reading(int sector, int t)
            throws IllegalArgumentException, IndexOutOfBoundsException, IllegalStateException {
        if (!isSector(sector)) {
            throw new IllegalArgumentException("no such sector");
        }
        if (!hasCome(t)) {
            throw new IndexOutOfBoundsException("the second");
        }
        Note before = line.lastReadingUpTo(sector, t);
        Note after = line.firstReadingFrom(sector, t);
        if (before == null || after == null) {
            throw new IllegalStateException("no reading there");
        }
        return valueBetween(before, after, t);
    }

    public int gap(int length, int i) throws IndexOutOfBoundsException {
        if (length < 0 || length > LAST_SECOND || i < 0) {
            throw new IndexOutOfBoundsException("the length or the gap's number");
        }
        Note earlier = null;
        int toSkip = i;
        for (int k = 0; k < line.size; k++) {
            Note later = line.inOrder[k];
            if (later.latest.struck) {
                continue;
            }
            if (earlier != null && later.second - earlier.second > length) {
                if (toSkip == 0) {
                    return earlier.number;
                }
                toSkip--;
            }
            earlier = later;
        }
        return NONE;
    }

    public int digest(int note) throws IllegalArgumentException {
        return noteOf(note).mixed;
    }

    public int noteAt(int note, int what) throws IllegalArgumentException {
        Note meant = noteOf(note);
        switch (what) {
            case 0:
                return meant.first.from;
            case 1:
                return meant.acts;
            case 2:
                return oneIf(meant.latest.struck);
            case 3:
                return meant.latest.value;
            case 4:
                return meant.first.value;
            default:
                throw new IllegalArgumentException("no such what");
        }
    }

    public int print() throws IllegalStateException {
        if (!question.asked) {
            throw new IllegalStateException("no question was asked");
        }
        sheet.begin(question.size);
        for (int i = 0; i < question.size; i++) {
            Note shown = question.rows[i];
            sheet.putRow(shown, shown.stateAt(question.known));
        }
        return sheet.size;
    }

    public int at(int i) throws IndexOutOfBoundsException {
        if (i < 0) {
            throw new IndexOutOfBoundsException("the byte's number");
        }
        return i < sheet.size ? sheet.bytes[i] : NONE;
    }

    public int tick(int seconds) throws IndexOutOfBoundsException {
        if (seconds < 1 || seconds > LONGEST_TICK || seconds > LAST_SECOND - second) {
            throw new IndexOutOfBoundsException("the seconds");
        }
        second += seconds;
        return second;
    }

    public int count(int what) throws IllegalArgumentException {
        switch (what) {
            case 0:
                return writers;
            case 1:
                return line.size;
            case 2:
                return acts;
            case 3:
                return line.howManyStruck();
            case 4:
                return line.howManyWrittenLater();
            default:
                throw new IllegalArgumentException("no such what");
        }
    }

    private boolean isWriter(int writer) {
        return writer >= 0 && writer < writers;
    }

    private static boolean isKind(int kind) {
        return kind >= 0 && kind < KINDS;
    }

    private static boolean isSector(int sector) {
        return sector >= 0 && sector < SECTORS;
    }

    private static boolean isValue(int value) {
        return value >= -MAX_VALUE && value <= MAX_VALUE;
    }

    private boolean hasCome(int t) {
        return t >= 0 && t <= second;
    }

    private Note noteOf(int number) {
        if (number < 0 || number >= line.size) {
            throw new IllegalArgumentException("no such note");
        }
        return line.byNumber[number];
    }

    private void refuseActWithoutRoom() {
        if (acts >= MAX_ACTS) {
            throw new UnsupportedOperationException("no room for an act");
        }
    }

    private static int oneIf(boolean so) {
        return so ? 1 : 0;
    }

    private static int valueBetween(Note before, Note after, int t) {
        int span = after.second - before.second;
        // Both stand at t itself, perhaps among several: the last one in the line counts.
        if (span <= 0) {
            return before.latest.value;
        }
        // At most 19,998 times 99,998: an int holds it.
        int risen = (after.latest.value - before.latest.value) * (t - before.second);
        return before.latest.value + Math.floorDiv(risen, span);
    }

    /** What is known of a note from a second on; the chain leads back to what was written first. */
    private static final class State {
        final int from;
        final int value;
        final boolean struck;
        final State earlier;

        State(int from, int value, boolean struck, State earlier) {
            this.from = from;
            this.value = value;
            this.struck = struck;
            this.earlier = earlier;
        }
    }

    /** A note with all that its acts made of it. */
    private static final class Note {
        private static final int DIGEST_START = 7;
        private static final int DIGEST_TURN = 7;

        final int number;
        final int writer;
        final int kind;
        final int sector;
        final int second;
        final State first;
        State latest;
        int acts;
        int corrections;
        // Each value goes into the digest as it comes: no walk over the corrections is needed.
        int mixed;

        Note(int number, int writer, int kind, int sector, int second, int value, int known) {
            this.number = number;
            this.writer = writer;
            this.kind = kind;
            this.sector = sector;
            this.second = second;
            this.first = new State(known, value, false, null);
            this.latest = this.first;
            this.mixed = mix(mix(mix(mix(mix(DIGEST_START, writer), kind), sector), second), value);
        }

        static int mix(int d, int v) {
            int x = d ^ v;
            return ((x << DIGEST_TURN) | (x >>> (32 - DIGEST_TURN))) + v;
        }

        void takeValue(int now, int value) {
            latest = new State(now, value, latest.struck, latest);
            mixed = mix(mixed, value);
            corrections++;
            acts++;
        }

        void takeStrike(int now, boolean struck) {
            latest = new State(now, latest.value, struck, latest);
            acts++;
        }

        State stateAt(int known) {
            State state = latest;
            while (state.from > known && state.earlier != null) {
                state = state.earlier;
            }
            return state;
        }

        boolean isWithin(int from, int to) {
            return second >= from && second < to;
        }

        boolean isOf(int askedKind, int askedSector) {
            return (askedKind == ANY || askedKind == kind)
                    && (askedSector == ANY || askedSector == sector);
        }

        boolean isReadingOf(int askedSector) {
            return kind == KIND_READING && sector == askedSector && !latest.struck;
        }

        boolean standsBehind(Note other) {
            if (second != other.second) {
                return second > other.second;
            }
            if (writer != other.writer) {
                return writer > other.writer;
            }
            return number > other.number;
        }
    }

    /** All notes, by their numbers and in the order of the line. */
    private static final class Line {
        final Note[] byNumber = new Note[MAX_NOTES];
        final Note[] inOrder = new Note[MAX_NOTES];
        int size;

        void take(Note note) {
            if (size >= MAX_NOTES) {
                return;
            }
            byNumber[size] = note;
            int place = size;
            while (place > 0 && inOrder[place - 1].standsBehind(note)) {
                inOrder[place] = inOrder[place - 1];
                place--;
            }
            inOrder[place] = note;
            size++;
        }

        Note lastReadingUpTo(int sector, int t) {
            for (int i = size - 1; i >= 0; i--) {
                if (inOrder[i].second <= t && inOrder[i].isReadingOf(sector)) {
                    return inOrder[i];
                }
            }
            return null;
        }

        Note firstReadingFrom(int sector, int t) {
            for (int i = 0; i < size; i++) {
                if (inOrder[i].second >= t && inOrder[i].isReadingOf(sector)) {
                    return inOrder[i];
                }
            }
            return null;
        }

        int howManyStruck() {
            int found = 0;
            for (int i = 0; i < size; i++) {
                if (byNumber[i].latest.struck) {
                    found++;
                }
            }
            return found;
        }

        int howManyWrittenLater() {
            int found = 0;
            for (int i = 0; i < size; i++) {
                if (byNumber[i].first.from > byNumber[i].second) {
                    found++;
                }
            }
            return found;
        }
    }

    /** The latest question's rows; which notes is kept, their states are looked up when wanted. */
    private static final class Question {
        final Note[] rows = new Note[MAX_NOTES];
        int size;
        int known;
        boolean asked;

        void begin(int asKnownAt) {
            asked = true;
            known = asKnownAt;
            size = 0;
        }

        void take(Note note) {
            if (size < MAX_NOTES) {
                rows[size] = note;
                size++;
            }
        }
    }

    /** The latest sheet's bytes, in one array that each print uses again. */
    private static final class Sheet {
        private static final int HEAD_BYTES = 5;
        private static final int ROW_BYTES = 20;
        // No number of a sheet has more than five digits.
        private static final int LARGEST_UNIT = 10_000;

        final byte[] bytes = new byte[HEAD_BYTES + MAX_NOTES * ROW_BYTES];
        int size;

        void begin(int rows) {
            size = 0;
            putNumber('T', rows);
            put(';');
        }

        void putRow(Note note, State state) {
            putDigits(note.second);
            put(':');
            putNumber('w', note.writer);
            putNumber('k', note.kind);
            putNumber('s', note.sector);
            put('=');
            if (state.value < 0) {
                put('-');
            }
            putDigits(Math.abs(state.value));
            if (state.struck) {
                put('x');
            }
            put(';');
        }

        private void putNumber(char name, int number) {
            put(name);
            putDigits(number);
        }

        private void putDigits(int number) {
            int unit = LARGEST_UNIT;
            while (unit > 1 && unit > number) {
                unit /= 10;
            }
            while (unit > 0) {
                put((char) ('0' + number / unit % 10));
                unit /= 10;
            }
        }

        private void put(char c) {
            if (size < bytes.length) {
                bytes[size] = (byte) c;
                size++;
            }
        }
    }
}

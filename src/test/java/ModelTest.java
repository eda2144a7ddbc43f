import java.util.ArrayList;
import java.util.Comparator;
import java.util.List;

/**
 * Long runs of mixed calls, right and wrong ones, against a second reading of the document that
 * keeps all acts in one list and looks everything up anew.
 */
public final class ModelTest {
    private static final int RUNS = 400;
    // An object's calls: what it answers beyond them is free.
    private static final int CALLS = 512;

    private final Run kind;
    private int calls;
    private long seed;
    private final SceneTimes x = new SceneTimes();
    private final Model model = new Model();

    /** What a run has more of than others: so that some come to each of the document's limits. */
    private enum Run { EVEN, MANY_ACTS, LONG_TICKS }

    private ModelTest(int run) {
        seed = run * 7_919L + 13;
        kind = Run.values()[run % Run.values().length];
    }

    public static void main(String[] args) {
        for (int run = 0; run < RUNS; run++) {
            new ModelTest(run).go(run);
        }
        Check.end();
    }

    private void go(int run) {
        for (int i = 0; i < CALLS && calls < CALLS; i++) {
            step("run " + run + ", call " + calls + ": ");
        }
    }

    /** A number from low to high, drawn the same way in every run of the tests. */
    private int draw(int low, int high) {
        seed = seed * 6_364_136_223_846_793_005L + 1_442_695_040_888_963_407L;
        return low + (int) ((seed >>> 33) % (high - low + 1L));
    }

    private int drawSecond() {
        int near = draw(0, 9);
        return near == 0 ? draw(-2, model.now + 2) : Math.max(0, model.now - draw(0, 30));
    }

    private int drawValue() {
        return draw(0, 5) == 0 ? draw(-10_003, 10_003) : draw(-20, 20);
    }

    private int drawCall() {
        boolean act = kind == Run.MANY_ACTS && draw(0, 9) < 8 && !model.notes.isEmpty();
        return act ? draw(6, 9) : draw(0, 19);
    }

    /** Mostly what the note is not yet. */
    private boolean drawOn(int n) {
        boolean any = draw(0, 1) == 1;
        if (draw(0, 3) == 0 || n < 0 || n >= model.notes.size()) {
            return any;
        }
        return !model.struckAt(model.notes.get(n), model.now);
    }

    private int drawTick() {
        if (kind == Run.LONG_TICKS) {
            return draw(4_000, 5_010);
        }
        return draw(0, 9) == 0 ? draw(-1, 5_002) : draw(1, 4);
    }

    private void step(String where) {
        int n = draw(-1, model.notes.size());
        int t = drawSecond();
        int v = drawValue();
        int a = draw(-1, 10);
        int b = draw(-2, 6);
        boolean on = drawOn(n);
        int s = draw(0, 3) == 0 ? a : draw(0, 1);
        int k = draw(0, 3) == 0 ? b : 2;
        int known = draw(0, 2) == 0 ? t : model.now;
        int what = draw(-1, 5);
        switch (drawCall()) {
            case 0: agree(where + "writer", x::writer, model::writer); break;
            case 1: case 2: case 3: case 4: case 5:
                int w = draw(0, 9) == 0 ? a : draw(0, 2);
                agree(where + "note", () -> x.note(w, k, s, t, v), () -> model.note(w, k, s, t, v)); break;
            case 6: case 7: agree(where + "correct", () -> x.correct(n, v), () -> model.correct(n, v)); break;
            case 8: case 9: agree(where + "strike", () -> struck(n, on), () -> model.strike(n, on)); break;
            case 10: case 11:
                int to = t + draw(-2, 40);
                agree(where + "ask", () -> x.ask(t - 20, to, b, s, known), () -> model.ask(t - 20, to, b, s, known)); break;
            case 12:
                agree(where + "ask all", () -> x.ask(0, 99_999, -1, -1, known), () -> model.ask(0, 99_999, -1, -1, known)); break;
            case 13: case 14:
                int i = draw(-1, model.rows.size());
                agree(where + "row", () -> x.row(i, what), () -> model.row(i, what)); break;
            case 15: agree(where + "reading", () -> x.reading(s, t), () -> model.reading(s, t)); break;
            case 16:
                int g = draw(-1, 8);
                int length = draw(0, 9) == 0 ? draw(99_990, 100_010) : draw(-1, 9);
                agree(where + "gap", () -> x.gap(length, g), () -> model.gap(length, g)); break;
            case 17:
                agree(where + "digest", () -> x.digest(n), () -> model.digest(n));
                agree(where + "noteAt", () -> x.noteAt(n, what), () -> model.noteAt(n, what)); break;
            case 18:
                agree(where + "print", x::print, model::print);
                int byteAt = draw(-1, model.sheet.length() + 1);
                agree(where + "at", () -> x.at(byteAt), () -> model.at(byteAt));
                agree(where + "count", () -> x.count(what), () -> model.count(what)); break;
            default:
                int seconds = drawTick();
                agree(where + "tick", () -> x.tick(seconds), () -> model.tick(seconds));
        }
    }

    private long struck(int n, boolean on) {
        x.strike(n, on);
        return 0;
    }

    private void agree(String call, Check.Call got, Check.Call due) {
        if (calls >= CALLS) {
            return;
        }
        calls++;
        Check.same(call, Check.outcome(got), Check.outcome(due));
    }

    private record Note(int number, int writer, int kind, int sector, int second, int value, int known) {
    }

    private record Act(int note, char what, int value, int second) {
    }

    private static final class Model {
        final List<Note> notes = new ArrayList<>();
        final List<Act> acts = new ArrayList<>();
        List<Note> rows = new ArrayList<>();
        String sheet = "";
        boolean asked;
        int rowsKnown;
        int now;
        int writers;

        static void unknownUnless(boolean fine) {
            if (!fine) throw new IllegalArgumentException();
        }

        static void outsideUnless(boolean fine) {
            if (!fine) throw new IndexOutOfBoundsException();
        }

        static void stateUnless(boolean fine) {
            if (!fine) throw new IllegalStateException();
        }

        static void roomUnless(boolean fine) {
            if (!fine) throw new UnsupportedOperationException();
        }

        static boolean in(int x, int low, int high) {
            return low <= x && x <= high;
        }

        void noteUnless(int n) {
            unknownUnless(in(n, 0, notes.size() - 1));
        }

        int valueAt(Note note, int known) {
            int value = note.value;
            for (Act act : acts) {
                if (act.note == note.number && act.what == 'c' && act.second <= known) value = act.value;
            }
            return value;
        }

        boolean struckAt(Note note, int known) {
            boolean struck = false;
            for (Act act : acts) {
                if (act.note == note.number && act.what != 'c' && act.second <= known) struck = act.what == 's';
            }
            return struck;
        }

        List<Note> lineAt(int known) {
            List<Note> line = new ArrayList<>();
            for (Note note : notes) {
                if (note.known <= known) line.add(note);
            }
            line.sort(Comparator.comparingInt(Note::second).thenComparingInt(Note::writer).thenComparingInt(Note::number));
            return line;
        }

        List<Note> standing() {
            List<Note> line = lineAt(now);
            line.removeIf(note -> struckAt(note, now));
            return line;
        }

        long writer() {
            roomUnless(writers < 10);
            return writers++;
        }

        long note(int writer, int kind, int sector, int t, int value) {
            unknownUnless(in(writer, 0, writers - 1) && in(kind, 0, 5) && in(sector, 0, 9));
            outsideUnless(in(t, 0, now) && in(value, -9_999, 9_999));
            roomUnless(notes.size() < 100);
            notes.add(new Note(notes.size(), writer, kind, sector, t, value, now));
            return notes.size() - 1;
        }

        long correct(int n, int value) {
            noteUnless(n);
            outsideUnless(in(value, -9_999, 9_999));
            stateUnless(!struckAt(notes.get(n), now));
            roomUnless(acts.size() < 200);
            acts.add(new Act(n, 'c', value, now));
            return acts.stream().filter(act -> act.note == n && act.what == 'c').count();
        }

        long strike(int n, boolean on) {
            noteUnless(n);
            stateUnless(struckAt(notes.get(n), now) != on);
            roomUnless(acts.size() < 200);
            acts.add(new Act(n, on ? 's' : 'r', 0, now));
            return 0;
        }

        long ask(int from, int to, int kind, int sector, int known) {
            unknownUnless(in(kind, -1, 5) && in(sector, -1, 9));
            outsideUnless(in(known, 0, now));
            asked = true;
            rowsKnown = known;
            rows = lineAt(known);
            rows.removeIf(note -> note.second < from || note.second >= to);
            rows.removeIf(note -> kind >= 0 && note.kind != kind || sector >= 0 && note.sector != sector);
            return rows.size();
        }

        long row(int i, int what) {
            unknownUnless(in(i, 0, rows.size() - 1) && in(what, 0, 4));
            Note note = rows.get(i);
            int struck = struckAt(note, rowsKnown) ? 1 : 0;
            return new int[] {note.number, note.second, valueAt(note, rowsKnown), struck, note.writer}[what];
        }

        long reading(int sector, int t) {
            unknownUnless(in(sector, 0, 9));
            outsideUnless(in(t, 0, now));
            List<Note> line = standing();
            line.removeIf(note -> note.kind != 2 || note.sector != sector);
            for (int i = line.size() - 1; i >= 0; i--) {
                if (line.get(i).second == t) return valueAt(line.get(i), now);
            }
            for (int i = 0; i + 1 < line.size(); i++) {
                Note a = line.get(i);
                Note b = line.get(i + 1);
                if (a.second < t && t < b.second) {
                    long rise = (valueAt(b, now) - valueAt(a, now)) * (long) (t - a.second);
                    return valueAt(a, now) + Math.floorDiv(rise, b.second - a.second);
                }
            }
            throw new IllegalStateException();
        }

        long gap(int length, int i) {
            outsideUnless(in(length, 0, 99_999) && i >= 0);
            List<Note> line = standing();
            List<Integer> gaps = new ArrayList<>();
            for (int k = 0; k + 1 < line.size(); k++) {
                if (line.get(k + 1).second - line.get(k).second > length) gaps.add(line.get(k).number);
            }
            return i < gaps.size() ? gaps.get(i) : -1;
        }

        long digest(int n) {
            noteUnless(n);
            Note note = notes.get(n);
            List<Integer> all = new ArrayList<>(List.of(note.writer, note.kind, note.sector, note.second, note.value));
            acts.stream().filter(act -> act.note == n && act.what == 'c').forEach(act -> all.add(act.value));
            int d = 7;
            for (int v : all) d = Integer.rotateLeft(d ^ v, 7) + v;
            return d;
        }

        long noteAt(int n, int what) {
            unknownUnless(in(n, 0, notes.size() - 1) && in(what, 0, 4));
            Note note = notes.get(n);
            int own = (int) acts.stream().filter(act -> act.note == n).count();
            return new int[] {note.known, own, struckAt(note, now) ? 1 : 0, valueAt(note, now), note.value}[what];
        }

        long print() {
            stateUnless(asked);
            StringBuilder text = new StringBuilder("T" + rows.size() + ";");
            for (Note note : rows) {
                text.append(note.second + ":w" + note.writer + "k" + note.kind + "s" + note.sector);
                text.append("=" + valueAt(note, rowsKnown) + (struckAt(note, rowsKnown) ? "x;" : ";"));
            }
            sheet = text.toString();
            return sheet.length();
        }

        long at(int i) {
            outsideUnless(i >= 0);
            return i < sheet.length() ? sheet.charAt(i) : -1;
        }

        long tick(int seconds) {
            outsideUnless(in(seconds, 1, 5_000) && now + seconds <= 99_999);
            now += seconds;
            return now;
        }

        long count(int what) {
            unknownUnless(in(what, 0, 4));
            long struck = notes.stream().filter(note -> struckAt(note, now)).count();
            long later = notes.stream().filter(note -> note.known > note.second).count();
            return new long[] {writers, notes.size(), acts.size(), struck, later}[what];
        }
    }
}

/**
 * Where more than one refusal is so at once, the first of these: an unknown number, outside of a
 * range, not in this state, no room. And a refused call changes nothing that can be seen.
 */
public final class RefusalsTest {
    private static final String UNKNOWN = "throws.IllegalArgumentException";
    private static final String OUTSIDE = "throws.IndexOutOfBoundsException";
    private static final String STATE = "throws.IllegalStateException";
    private static final String ROOM = "throws.UnsupportedOperationException";

    private static final int[] NO_KIND = {-1, 6};
    private static final int[] NO_SECTOR = {-1, 10};
    private static final int[] NO_VALUE = {-10_000, 10_000};

    private interface Use {
        long on(SceneTimes x);
    }

    public static void main(String[] args) {
        noteUnknownFirst();
        noteOutsideBeforeRoom();
        correctInOrder();
        strikeInOrder();
        askInOrder();
        readingInOrder();
        roomLast();
        changeNothing();
        refusedQuestionIsNone();
        Check.end();
    }

    /** On an object without any room; it stays as it was. */
    private static void refusedWhenFull(String name, String due, Use use) {
        SceneTimes x = Scenes.full();
        String before = seenOfFull(x);
        Check.same(name, Check.outcome(() -> use.on(x)), due);
        Check.same(name + ", what is seen behind it", seenOfFull(x), before);
    }

    private static String seenOfFull(SceneTimes x) {
        StringBuilder seen = new StringBuilder();
        for (int what = 0; what < 5; what++) {
            seen.append(x.count(what)).append(' ');
            seen.append(x.noteAt(0, what)).append(' ').append(x.noteAt(99, what)).append(' ');
        }
        return seen.append(x.digest(0)).append(' ').append(x.digest(99)).toString();
    }

    private static void noteUnknownFirst() {
        for (int t : new int[] {-1, 0, 100_000}) {
            for (int value : new int[] {-10_000, 0, 10_000}) {
                refusedWhenFull("3: writer first", UNKNOWN, x -> x.note(10, 0, 0, t, value));
                refusedWhenFull("3: writer first", UNKNOWN, x -> x.note(-1, 0, 0, t, value));
                for (int kind : NO_KIND) {
                    refusedWhenFull("3: kind first", UNKNOWN, x -> x.note(9, kind, 0, t, value));
                }
                for (int sector : NO_SECTOR) {
                    refusedWhenFull("3: sector first", UNKNOWN, x -> x.note(9, 0, sector, t, value));
                }
            }
        }
    }

    private static void noteOutsideBeforeRoom() {
        for (int value : NO_VALUE) {
            refusedWhenFull("3: value before room", OUTSIDE, x -> x.note(9, 5, 9, 0, value));
        }
        refusedWhenFull("3: second before room", OUTSIDE, x -> x.note(9, 5, 9, -1, 0));
        refusedWhenFull("3: second before room", OUTSIDE, x -> x.note(9, 5, 9, 100_000, 0));
    }

    private static void correctInOrder() {
        for (int note : new int[] {-1, 100}) {
            refusedWhenFull("4: note before room", UNKNOWN, x -> x.correct(note, 0));
            refusedWhenFull("4: note before value", UNKNOWN, x -> x.correct(note, 10_000));
        }
        for (int value : NO_VALUE) {
            refusedWhenFull("4: value before state and room", OUTSIDE, x -> x.correct(0, value));
            refusedWhenFull("4: value before room", OUTSIDE, x -> x.correct(1, value));
        }
        refusedWhenFull("4: state before room", STATE, x -> x.correct(0, 1));
    }

    private static void strikeInOrder() {
        for (int note : new int[] {-1, 100}) {
            refusedWhenFull("5: note before room", UNKNOWN, x -> Scenes.strike(x, note, true));
            refusedWhenFull("5: note before room", UNKNOWN, x -> Scenes.strike(x, note, false));
        }
        refusedWhenFull("5: struck before room", STATE, x -> Scenes.strike(x, 0, true));
        refusedWhenFull("5: not struck before room", STATE, x -> Scenes.strike(x, 1, false));
    }

    private static void askInOrder() {
        for (int known : new int[] {-1, 100_000}) {
            for (int kind : new int[] {-2, 6}) {
                refusedWhenFull("6: kind before known", UNKNOWN, x -> x.ask(0, 1, kind, -1, known));
            }
            for (int sector : new int[] {-2, 10}) {
                refusedWhenFull("6: sector before known", UNKNOWN, x -> x.ask(0, 1, -1, sector, known));
            }
            refusedWhenFull("6: known", OUTSIDE, x -> x.ask(0, 1, -1, -1, known));
        }
    }

    private static void readingInOrder() {
        for (int sector : NO_SECTOR) {
            refusedWhenFull("8: sector before second", UNKNOWN, x -> x.reading(sector, -1));
            refusedWhenFull("8: sector before second", UNKNOWN, x -> x.reading(sector, 100_000));
            refusedWhenFull("8: sector before none", UNKNOWN, x -> x.reading(sector, 0));
        }
        refusedWhenFull("8: second before none", OUTSIDE, x -> x.reading(1, -1));
        refusedWhenFull("8: second before none", OUTSIDE, x -> x.reading(1, 100_000));
        refusedWhenFull("8: none", STATE, x -> x.reading(1, 0));
    }

    private static void roomLast() {
        refusedWhenFull("2: room", ROOM, SceneTimes::writer);
        refusedWhenFull("3: room", ROOM, x -> x.note(9, 5, 9, 99_999, 9_999));
        refusedWhenFull("4: room", ROOM, x -> x.correct(1, -9_999));
        refusedWhenFull("5: room to strike", ROOM, x -> Scenes.strike(x, 1, true));
        refusedWhenFull("5: room to restore", ROOM, x -> Scenes.strike(x, 0, false));
    }

    /** Some of everything, with a question and its sheet. */
    private static SceneTimes someScene() {
        SceneTimes x = Scenes.atSecond(5);
        x.note(0, 2, 0, 1, 10);
        x.note(1, 2, 0, 3, 20);
        x.note(1, 0, 4, 3, -7);
        x.tick(1);
        x.correct(0, 12);
        x.strike(2, true);
        x.ask(0, 10, -1, -1, 5);
        x.print();
        x.ask(2, 10, -1, -1, 6);
        return x;
    }

    /** All that the calls which change nothing tell, the present second too. */
    private static String seen(SceneTimes x) {
        StringBuilder seen = new StringBuilder();
        for (int i = 0; i < 5; i++) {
            int what = i;
            seen.append(x.count(what)).append(' ');
            for (int k = 0; k < 4; k++) {
                int n = k;
                seen.append(Check.outcome(() -> x.noteAt(n, what))).append(' ');
                seen.append(Check.outcome(() -> x.row(n, what))).append(' ');
            }
            seen.append(Check.outcome(() -> x.digest(what))).append(' ').append(x.gap(0, what)).append(' ');
        }
        for (int k = 0; k < 9; k++) {
            int t = k;
            seen.append(Check.outcome(() -> x.reading(0, t))).append(' ');
        }
        for (int i = 0; x.at(i) >= 0; i++) {
            seen.append((char) x.at(i));
        }
        return seen.toString();
    }

    private static void changesNothing(String name, String due, Use use) {
        SceneTimes x = someScene();
        String before = seen(x);
        Check.same(name, Check.outcome(() -> use.on(x)), due);
        Check.same(name + ", what is seen behind it", seen(x), before);
    }

    private static void changeNothing() {
        changesNothing("3: writer", UNKNOWN, x -> x.note(2, 0, 0, 0, 0));
        changesNothing("3: kind", UNKNOWN, x -> x.note(0, 6, 0, 0, 0));
        changesNothing("3: sector", UNKNOWN, x -> x.note(0, 0, 10, 0, 0));
        changesNothing("3: second", OUTSIDE, x -> x.note(0, 0, 0, 7, 0));
        changesNothing("3: value", OUTSIDE, x -> x.note(0, 0, 0, 0, 10_000));
        changesNothing("4: note", UNKNOWN, x -> x.correct(3, 0));
        changesNothing("4: value", OUTSIDE, x -> x.correct(0, -10_000));
        changesNothing("4: struck", STATE, x -> x.correct(2, 0));
        changesNothing("5: note", UNKNOWN, x -> Scenes.strike(x, 3, true));
        changesNothing("5: struck", STATE, x -> Scenes.strike(x, 2, true));
        changesNothing("5: not struck", STATE, x -> Scenes.strike(x, 0, false));
        changesNothing("6: kind", UNKNOWN, x -> x.ask(0, 10, 6, -1, 6));
        changesNothing("6: sector", UNKNOWN, x -> x.ask(0, 10, -1, 10, 6));
        changesNothing("6: known to come", OUTSIDE, x -> x.ask(0, 10, -1, -1, 7));
        changesNothing("6: known below 0", OUTSIDE, x -> x.ask(0, 10, -1, -1, -1));
        changesNothing("7: row", UNKNOWN, x -> x.row(2, 0));
        changesNothing("7: what", UNKNOWN, x -> x.row(0, 5));
        changesNothing("7: both", UNKNOWN, x -> x.row(-1, -1));
        changesNothing("8: sector", UNKNOWN, x -> x.reading(10, 0));
        changesNothing("8: second", OUTSIDE, x -> x.reading(0, 7));
        changesNothing("8: none", STATE, x -> x.reading(0, 4));
        changesNothing("9: length", OUTSIDE, x -> x.gap(100_000, 0));
        changesNothing("9: i", OUTSIDE, x -> x.gap(0, -1));
        changesNothing("10: note", UNKNOWN, x -> x.digest(3));
        changesNothing("11: note", UNKNOWN, x -> x.noteAt(3, 0));
        changesNothing("11: what", UNKNOWN, x -> x.noteAt(0, 5));
        changesNothing("11: both", UNKNOWN, x -> x.noteAt(-1, -1));
        changesNothing("13: i", OUTSIDE, x -> x.at(-1));
        changesNothing("14: none", OUTSIDE, x -> x.tick(0));
        changesNothing("14: too many", OUTSIDE, x -> x.tick(5_001));
        changesNothing("15: what", UNKNOWN, x -> x.count(5));
    }

    private static void refusedQuestionIsNone() {
        SceneTimes x = Scenes.atSecond(5);
        Check.same("6: unknown", Check.outcome(() -> x.ask(0, 1, 6, -1, 5)), UNKNOWN);
        Check.same("6: outside", Check.outcome(() -> x.ask(0, 1, -1, -1, 6)), OUTSIDE);
        Check.same("12: there was none", Check.outcome(x::print), STATE);
        Check.same("13: no sheet of a refused print", x.at(0), -1);
        x.ask(0, 1, -1, -1, 5);
        Check.same("12: there was one", Check.outcome(x::print), "3");
    }
}

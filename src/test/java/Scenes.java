/** Objects that the tests begin with, and calls that several of them need. */
final class Scenes {
    static final int LOWEST = Integer.MIN_VALUE;
    static final int HIGHEST = Integer.MAX_VALUE;
    static final int LAST_SECOND = 99_999;

    private Scenes() {
    }

    /** An object with two writers at a second. */
    static SceneTimes atSecond(int second) {
        SceneTimes x = withWriters(2);
        goOn(x, second);
        return x;
    }

    static SceneTimes withWriters(int writers) {
        SceneTimes x = new SceneTimes();
        for (int i = 0; i < writers; i++) {
            x.writer();
        }
        return x;
    }

    /** By as many seconds, in as few ticks as can be. */
    static void goOn(SceneTimes x, int seconds) {
        for (int left = seconds; left > 0; left -= 5_000) {
            x.tick(Math.min(left, 5_000));
        }
    }

    /** No room for anything: all writers, notes and acts, at the last second; note 0 is struck. */
    static SceneTimes full() {
        SceneTimes x = withWriters(10);
        goOn(x, LAST_SECOND);
        for (int i = 0; i < 100; i++) {
            x.note(i % 10, i % 6, i % 10, i, i);
        }
        x.strike(0, true);
        for (int i = 1; i < 200; i++) {
            x.correct(99, i);
        }
        return x;
    }

    /** strike() with an answer, so that it compares like the other calls. */
    static long strike(SceneTimes x, int note, boolean on) {
        x.strike(note, on);
        return 0;
    }

    /** Prints, and reads the sheet up to its end. */
    static String sheet(SceneTimes x) {
        int size = x.print();
        StringBuilder text = new StringBuilder();
        for (int i = 0; i < size; i++) {
            text.append((char) x.at(i));
        }
        Check.same("at(" + size + ") behind the sheet", x.at(size), -1);
        return text.toString();
    }
}

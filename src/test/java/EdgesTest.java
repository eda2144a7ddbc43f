/**
 * Both sides of each edge that the document names: the last that is taken and the first that is
 * not. The names begin with the promise's number, or with the term. Every object stays within the
 * 512 calls that the document speaks of.
 */
public final class EdgesTest {
    private static final int LOWEST = Scenes.LOWEST;
    private static final int HIGHEST = Scenes.HIGHEST;
    private static final int LAST_SECOND = Scenes.LAST_SECOND;

    public static void main(String[] args) {
        firstSecond();
        lastSecond();
        tickUpToTheEnd();
        writers();
        kindsAndSectors();
        lastNote();
        valuesTaken();
        valuesRefused();
        lastActIsACorrection();
        lastActIsAStrike();
        lastActIsARestoring();
        allActsOfOneNote();
        actsOfOneSecond();
        actsOfSecondsSideBySide();
        span();
        spanAtSecondNought();
        knownFrom();
        rowsByLaterCalls();
        rowsOfAnEarlierSecond();
        readingRoundsDown();
        readingOfOneNote();
        readingOfOneSecond();
        readingBeforeAndBehind();
        readingSectors();
        gapLength();
        gapNumber();
        gapsOfFewNotes();
        digestIn32Bits();
        numbersOfASheet();
        valuesOfASheet();
        headOfASheet();
        endOfASheet();
        writtenLater();
        struckNow();
        Check.end();
    }

    private static void firstSecond() {
        SceneTimes x = Scenes.withWriters(1);
        Check.refusedAsOutside("time: note at 1 in second 0", () -> x.note(0, 2, 0, 1, 5));
        Check.refusedAsOutside("time: note at -1 in second 0", () -> x.note(0, 2, 0, -1, 5));
        Check.same("time: note at 0 in second 0", x.note(0, 2, 0, 0, 5), 0);
        Check.refusedAsOutside("time: known at 1 in second 0", () -> x.ask(0, 1, -1, -1, 1));
        Check.refusedAsOutside("time: known at -1 in second 0", () -> x.ask(0, 1, -1, -1, -1));
        Check.same("time: known at 0 in second 0", x.ask(0, 1, -1, -1, 0), 1);
        Check.refusedAsOutside("time: reading at 1 in second 0", () -> x.reading(0, 1));
        Check.refusedAsOutside("time: reading at -1 in second 0", () -> x.reading(0, -1));
        Check.same("time: reading at 0 in second 0", x.reading(0, 0), 5);
        Check.same("time: the first tick", x.tick(1), 1);
        Check.same("time: note at 1 in second 1", x.note(0, 2, 0, 1, 6), 1);
        Check.same("time: known at 1 in second 1", x.ask(0, 2, -1, -1, 1), 2);
        Check.same("time: reading at 1 in second 1", x.reading(0, 1), 6);
    }

    private static void lastSecond() {
        SceneTimes x = Scenes.atSecond(LAST_SECOND);
        Check.refusedAsOutside("time: note at 100,000", () -> x.note(0, 2, 0, 100_000, 5));
        Check.same("time: note at 99,999", x.note(0, 2, 0, 99_999, 5), 0);
        Check.refusedAsOutside("time: known at 100,000", () -> x.ask(0, 1, -1, -1, 100_000));
        Check.same("time: known at 99,999", x.ask(0, 100_000, -1, -1, 99_999), 1);
        Check.same("time: the span ends before 99,999", x.ask(0, 99_999, -1, -1, 99_999), 0);
        Check.same("time: the span begins at 99,999", x.ask(99_999, 100_000, -1, -1, 99_999), 1);
        Check.refusedAsOutside("time: reading at 100,000", () -> x.reading(0, 100_000));
        Check.same("time: reading at 99,999", x.reading(0, 99_999), 5);
        Check.same("time: known from 99,999", x.noteAt(0, 0), 99_999);
        Check.refusedAsOutside("time: no second behind it", () -> x.tick(1));
    }

    private static void tickUpToTheEnd() {
        SceneTimes x = Scenes.atSecond(94_999);
        Check.refusedAsOutside("14: 5,001 to 100,000", () -> x.tick(5_001));
        Check.same("14: 5,000 to 99,999", x.tick(5_000), 99_999);
        SceneTimes y = Scenes.atSecond(95_000);
        Check.refusedAsOutside("14: 5,000 to 100,000", () -> y.tick(5_000));
        Check.refusedAsOutside("14: 0 seconds", () -> y.tick(0));
        Check.same("14: a refused tick leaves the second", y.tick(4_998), 99_998);
        Check.refusedAsOutside("14: 2 to 100,000", () -> y.tick(2));
        Check.same("14: 1 to 99,999", y.tick(1), 99_999);
    }

    private static void writers() {
        SceneTimes x = new SceneTimes();
        for (int i = 0; i < 10; i++) {
            int next = i;
            Check.refusedAsUnknown("2: writer " + i + " is not there yet", () -> x.note(next, 0, 0, 0, 0));
            Check.same("2: the number", x.writer(), i);
            Check.same("3: writer " + i, x.note(i, 0, 0, 0, 0), i);
        }
        Check.refusedForRoom("2: there are 10", x::writer);
        Check.refusedAsUnknown("3: writer 10", () -> x.note(10, 0, 0, 0, 0));
        Check.refusedAsUnknown("3: writer -1", () -> x.note(-1, 0, 0, 0, 0));
        x.ask(0, 1, -1, -1, 0);
        Check.same("7: writer 9", x.row(9, 4), 9);
    }

    private static void kindsAndSectors() {
        SceneTimes x = Scenes.atSecond(0);
        for (int i = 0; i < 60; i++) {
            Check.same("3: each kind and sector", x.note(0, i / 10, i % 10, 0, i), i);
        }
        for (int i = 0; i < 60; i++) {
            Check.same("6: each kind and sector", x.ask(0, 1, i / 10, i % 10, 0), 1);
            Check.same("6: its note", x.row(0, 0), i);
        }
        for (int kind = 0; kind < 6; kind++) {
            Check.same("6: kind " + kind + ", any sector", x.ask(0, 1, kind, -1, 0), 10);
        }
        for (int sector = 0; sector < 10; sector++) {
            Check.same("6: any kind, sector " + sector, x.ask(0, 1, -1, sector, 0), 6);
        }
        Check.same("6: any of both", x.ask(0, 1, -1, -1, 0), 60);
        Check.refusedAsUnknown("6: kind -2", () -> x.ask(0, 1, -2, -1, 0));
        Check.refusedAsUnknown("6: kind 6", () -> x.ask(0, 1, 6, -1, 0));
        Check.refusedAsUnknown("6: sector -2", () -> x.ask(0, 1, -1, -2, 0));
        Check.refusedAsUnknown("6: sector 10", () -> x.ask(0, 1, -1, 10, 0));
    }

    private static void lastNote() {
        SceneTimes x = Scenes.atSecond(7);
        for (int i = 0; i < 99; i++) {
            x.note(0, 0, 0, 7, i);
        }
        Check.refusedAsUnknown("4: 99 is not there yet", () -> x.correct(99, 1));
        Check.refusedAsUnknown("5: 99 is not there yet", () -> Scenes.strike(x, 99, true));
        Check.refusedAsUnknown("10: 99 is not there yet", () -> x.digest(99));
        Check.refusedAsUnknown("11: 99 is not there yet", () -> x.noteAt(99, 0));
        Check.same("3: the 100th", x.note(0, 0, 0, 7, 99), 99);
        Check.refusedForRoom("3: the 101st", () -> x.note(0, 0, 0, 7, 99));
        Check.same("4: of 99", x.correct(99, 1), 1);
        Check.same("5: of 99", Scenes.strike(x, 99, true), 0);
        Check.same("11: of 99", x.noteAt(99, 1), 2);
        Check.same("10: 99 and 0 differ", x.digest(99) == x.digest(0) ? 1 : 0, 0);
        Check.refusedAsUnknown("4: of 100", () -> x.correct(100, 1));
        Check.refusedAsUnknown("5: of 100", () -> Scenes.strike(x, 100, true));
        Check.refusedAsUnknown("10: of 100", () -> x.digest(100));
        Check.refusedAsUnknown("11: of 100", () -> x.noteAt(100, 0));
        Check.same("6: all", x.ask(0, 8, -1, -1, 7), 100);
        Check.same("7: the last row", x.row(99, 0), 99);
        Check.refusedAsUnknown("7: behind the last row", () -> x.row(100, 0));
        Check.refusedAsUnknown("7: before the first row", () -> x.row(-1, 0));
    }

    private static void valuesTaken() {
        SceneTimes x = Scenes.atSecond(0);
        int[] values = {-9_999, -9_998, -1, 0, 1, 9_998, 9_999};
        for (int i = 0; i < values.length; i++) {
            Check.same("3: value " + values[i], x.note(0, 0, 0, 0, values[i]), i);
            Check.same("11: value " + values[i], x.noteAt(i, 3), values[i]);
            Check.same("4: value " + values[i], x.correct(0, values[i]), i + 1);
            Check.same("11: corrected to " + values[i], x.noteAt(0, 3), values[i]);
        }
        Check.same("11: the first value", x.noteAt(0, 4), -9_999);
    }

    private static void valuesRefused() {
        SceneTimes x = Scenes.atSecond(0);
        x.note(0, 0, 0, 0, 3);
        for (int bad : new int[] {-10_000, 10_000, LOWEST, HIGHEST}) {
            Check.refusedAsOutside("3: value " + bad, () -> x.note(0, 0, 0, 0, bad));
            Check.refusedAsOutside("4: value " + bad, () -> x.correct(0, bad));
        }
        Check.same("3: no other note", x.count(1), 1);
        Check.same("4: no act", x.noteAt(0, 1), 0);
        Check.same("4: the value stays", x.noteAt(0, 3), 3);
    }

    /** Three notes, the second one struck, and 199 acts. */
    private static SceneTimes beforeTheLastAct() {
        SceneTimes x = Scenes.atSecond(0);
        for (int i = 0; i < 3; i++) {
            x.note(0, 0, 0, 0, 0);
        }
        x.strike(1, true);
        for (int i = 0; i < 198; i++) {
            x.correct(2, i);
        }
        Check.same("acts: 199", x.count(2), 199);
        return x;
    }

    private static void noActMore(SceneTimes x, int standing, int struck) {
        Check.same("acts: 200", x.count(2), 200);
        Check.refusedForRoom("4: the 201st act", () -> x.correct(standing, 1));
        Check.refusedForRoom("5: the 201st act strikes", () -> Scenes.strike(x, standing, true));
        Check.refusedForRoom("5: the 201st act restores", () -> Scenes.strike(x, struck, false));
        Check.same("acts: 200 still", x.count(2), 200);
    }

    private static void lastActIsACorrection() {
        SceneTimes x = beforeTheLastAct();
        Check.same("4: the 200th act", x.correct(2, 9), 199);
        noActMore(x, 2, 1);
        Check.same("4: its value", x.noteAt(2, 3), 9);
    }

    private static void lastActIsAStrike() {
        SceneTimes x = beforeTheLastAct();
        Check.same("5: the 200th act strikes", Scenes.strike(x, 0, true), 0);
        noActMore(x, 2, 0);
        Check.same("5: struck", x.noteAt(0, 2), 1);
    }

    private static void lastActIsARestoring() {
        SceneTimes x = beforeTheLastAct();
        Check.same("5: the 200th act restores", Scenes.strike(x, 1, false), 0);
        Check.same("5: restored", x.noteAt(1, 2), 0);
        Check.refusedForRoom("4: corrected behind it", () -> x.correct(1, 1));
        Check.refusedForRoom("5: struck behind it", () -> Scenes.strike(x, 1, true));
        Check.same("acts: 200 behind a restoring", x.count(2), 200);
    }

    private static void allActsOfOneNote() {
        SceneTimes x = Scenes.atSecond(0);
        x.note(0, 0, 0, 0, 0);
        for (int i = 0; i < 200; i++) {
            Check.same("5: act " + (i + 1), Scenes.strike(x, 0, i % 2 == 0), 0);
        }
        Check.refusedForRoom("5: the 201st", () -> Scenes.strike(x, 0, true));
        Check.same("11: 200 acts of one note", x.noteAt(0, 1), 200);
        Check.same("4: none of them a correction", x.noteAt(0, 3), 0);
        x.ask(0, 1, -1, -1, 0);
        Check.same("7: not struck behind the 200th", x.row(0, 3), 0);
    }

    private static void actsOfOneSecond() {
        SceneTimes x = Scenes.atSecond(6);
        x.note(0, 0, 0, 6, 1);
        x.correct(0, 2);
        x.strike(0, true);
        x.strike(0, false);
        x.correct(0, 3);
        Check.same("acts: not known the second before", x.ask(0, 9, -1, -1, 5), 0);
        x.ask(0, 9, -1, -1, 6);
        Check.same("acts: the latest value of one second", x.row(0, 2), 3);
        Check.same("acts: restored in the same second", x.row(0, 3), 0);
        x.strike(0, true);
        Check.same("acts: struck again in the same second", x.row(0, 3), 1);
        Check.same("acts: a strike leaves the value", x.row(0, 2), 3);
        Check.same("11: struck now", x.noteAt(0, 2), 1);
        Check.same("11: all of them count", x.noteAt(0, 1), 5);
    }

    private static void actsOfSecondsSideBySide() {
        SceneTimes x = Scenes.atSecond(6);
        x.note(0, 0, 0, 6, 1);
        x.tick(1);
        x.correct(0, 2);
        x.tick(1);
        x.strike(0, true);
        x.tick(1);
        x.strike(0, false);
        int[] values = {1, 2, 2, 2};
        int[] struck = {0, 0, 1, 0};
        for (int i = 0; i < values.length; i++) {
            Check.same("acts: known at " + (6 + i), x.ask(6, 7, -1, -1, 6 + i), 1);
            Check.same("acts: value known at " + (6 + i), x.row(0, 2), values[i]);
            Check.same("acts: struck as known at " + (6 + i), x.row(0, 3), struck[i]);
        }
    }

    private static void span() {
        SceneTimes x = Scenes.atSecond(50);
        x.note(0, 0, 0, 10, 1);
        int[][] with = {{10, 11}, {9, 11}, {0, 11}, {10, 50}, {LOWEST, 11}, {10, HIGHEST}, {LOWEST, HIGHEST}};
        for (int[] each : with) {
            Check.same("6: in " + each[0] + " .. " + each[1], x.ask(each[0], each[1], -1, -1, 50), 1);
        }
        int[][] without = {
            {10, 10}, {9, 10}, {0, 10}, {11, 12}, {11, 11}, {11, 10}, {11, 9}, {LOWEST, 10}, {11, HIGHEST},
            {10, LOWEST}, {HIGHEST, LOWEST}, {LOWEST, LOWEST}, {HIGHEST, HIGHEST}};
        for (int[] each : without) {
            Check.same("6: not in " + each[0] + " .. " + each[1], x.ask(each[0], each[1], -1, -1, 50), 0);
        }
    }

    private static void spanAtSecondNought() {
        SceneTimes x = Scenes.atSecond(3);
        x.note(0, 0, 0, 0, 1);
        Check.same("6: 0 .. 1", x.ask(0, 1, -1, -1, 3), 1);
        Check.same("6: -1 .. 1", x.ask(-1, 1, -1, -1, 3), 1);
        Check.same("6: 0 .. 0", x.ask(0, 0, -1, -1, 3), 0);
        Check.same("6: -1 .. 0", x.ask(-1, 0, -1, -1, 3), 0);
        Check.same("6: 1 .. 2", x.ask(1, 2, -1, -1, 3), 0);
    }

    private static void knownFrom() {
        SceneTimes x = Scenes.atSecond(20);
        x.note(0, 0, 0, 5, 1);
        x.tick(1);
        x.note(0, 0, 0, 5, 2);
        Check.same("6: known at 19", x.ask(0, 50, -1, -1, 19), 0);
        Check.same("6: known at 20", x.ask(0, 50, -1, -1, 20), 1);
        Check.same("6: known at 21", x.ask(0, 50, -1, -1, 21), 2);
        Check.refusedAsOutside("6: known at 22", () -> x.ask(0, 50, -1, -1, 22));
        Check.same("6: known at 0", x.ask(0, 50, -1, -1, 0), 0);
        Check.refusedAsOutside("6: known at -1", () -> x.ask(0, 50, -1, -1, -1));
        Check.same("11: known from 20", x.noteAt(0, 0), 20);
        Check.same("11: known from 21", x.noteAt(1, 0), 21);
    }

    private static void rowsByLaterCalls() {
        SceneTimes x = Scenes.atSecond(9);
        x.note(0, 0, 0, 2, 1);
        x.note(0, 0, 0, 3, 2);
        Check.same("rows: asked", x.ask(0, 9, -1, -1, 9), 2);
        x.correct(1, 20);
        x.strike(0, true);
        x.note(0, 0, 0, 1, 3);
        Check.same("rows: which notes stays", x.row(0, 0), 0);
        Check.refusedAsUnknown("rows: as many as there were", () -> x.row(2, 0));
        Check.same("rows: by a later call of the second", Scenes.sheet(x), "T2;2:w0k0s0=1x;3:w0k0s0=20;");
        x.tick(1);
        x.correct(1, 30);
        x.strike(0, false);
        Check.same("rows: not by calls of the next second", Scenes.sheet(x), "T2;2:w0k0s0=1x;3:w0k0s0=20;");
        Check.same("rows: the next question", x.ask(0, 9, -1, -1, 10), 3);
        Check.same("rows: by now", Scenes.sheet(x), "T3;1:w0k0s0=3;2:w0k0s0=1;3:w0k0s0=30;");
    }

    private static void rowsOfAnEarlierSecond() {
        SceneTimes x = Scenes.atSecond(9);
        x.note(0, 0, 0, 2, 1);
        x.tick(1);
        x.ask(0, 9, -1, -1, 9);
        x.correct(0, 5);
        x.strike(0, true);
        Check.same("rows: a past second's value stays", x.row(0, 2), 1);
        Check.same("rows: a past second's strikes stay", x.row(0, 3), 0);
    }

    /** Two readings, at second 0 and 3. */
    private static SceneTimes readings(int first, int last) {
        SceneTimes x = Scenes.atSecond(3);
        x.note(0, 2, 0, 0, first);
        x.note(0, 2, 0, 3, last);
        return x;
    }

    private static void readingRoundsDown() {
        int[][] due = {
            {0, 0, 0, 1}, {0, 0, 1, 2}, {0, 1, 2, 3}, {0, 1, 2, 4},
            {0, -1, -1, -1}, {0, -1, -2, -2}, {0, -1, -2, -3}, {0, -2, -3, -4},
            {-1, -1, -1, 0}, {1, 0, 0, 0}, {-1, -1, 0, 1}, {1, 0, -1, -1}, {5, 5, 5, 5}};
        for (int[] each : due) {
            SceneTimes x = readings(each[0], each[3]);
            for (int t = 0; t <= 3; t++) {
                Check.same("8: from " + each[0] + " to " + each[3] + " at " + t, x.reading(0, t), each[t]);
            }
        }
    }

    private static void readingOfOneNote() {
        SceneTimes x = Scenes.atSecond(10);
        x.note(0, 2, 0, 5, 70);
        Check.refusedByState("8: before the only one", () -> x.reading(0, 4));
        Check.same("8: at the only one", x.reading(0, 5), 70);
        Check.refusedByState("8: behind the only one", () -> x.reading(0, 6));
        x.strike(0, true);
        Check.refusedByState("8: the only one is struck", () -> x.reading(0, 5));
        x.strike(0, false);
        Check.same("8: the only one is restored", x.reading(0, 5), 70);
    }

    private static void readingOfOneSecond() {
        SceneTimes x = Scenes.atSecond(10);
        x.note(1, 2, 0, 5, 30);
        x.note(0, 2, 0, 5, 10);
        x.note(0, 2, 0, 5, 20);
        Check.same("8: the last by writers", x.reading(0, 5), 30);
        Check.refusedByState("8: before them", () -> x.reading(0, 4));
        Check.refusedByState("8: behind them", () -> x.reading(0, 6));
        x.strike(0, true);
        Check.same("8: the last by numbers", x.reading(0, 5), 20);
        x.correct(1, 11);
        Check.same("8: not the latest corrected", x.reading(0, 5), 20);
        x.note(0, 1, 0, 5, 40);
        x.note(0, 2, 1, 5, 50);
        Check.same("8: not of another kind or sector", x.reading(0, 5), 20);
    }

    private static void readingBeforeAndBehind() {
        SceneTimes x = Scenes.atSecond(30);
        x.note(0, 2, 0, 20, 8);
        x.note(0, 2, 0, 10, 4);
        x.note(0, 0, 0, 5, 1);
        x.note(0, 0, 0, 25, 1);
        Check.refusedByState("8: at 9", () -> x.reading(0, 9));
        Check.same("8: at 10", x.reading(0, 10), 4);
        Check.same("8: at 11", x.reading(0, 11), 4);
        Check.same("8: at 19", x.reading(0, 19), 7);
        Check.same("8: at 20", x.reading(0, 20), 8);
        Check.refusedByState("8: at 21", () -> x.reading(0, 21));
        Check.refusedByState("8: at 0", () -> x.reading(0, 0));
        Check.refusedByState("8: at the present second", () -> x.reading(0, 30));
        Check.refusedAsOutside("8: to come", () -> x.reading(0, 31));
        Check.refusedAsOutside("8: below 0", () -> x.reading(0, -1));
    }

    private static void readingSectors() {
        SceneTimes x = Scenes.atSecond(0);
        for (int sector = 0; sector < 10; sector++) {
            int empty = sector;
            Check.refusedByState("8: none in " + sector, () -> x.reading(empty, 0));
            x.note(0, 2, sector, 0, sector);
            Check.same("8: sector " + sector, x.reading(sector, 0), sector);
        }
        Check.refusedAsUnknown("8: sector -1", () -> x.reading(-1, 0));
        Check.refusedAsUnknown("8: sector 10", () -> x.reading(10, 0));
    }

    private static void gapLength() {
        SceneTimes x = Scenes.atSecond(LAST_SECOND);
        x.note(0, 0, 0, 10, 0);
        x.note(0, 0, 0, 20, 0);
        Check.same("9: 10 is more than 9", x.gap(9, 0), 0);
        Check.same("9: 10 is not more than 10", x.gap(10, 0), -1);
        x.note(0, 0, 0, 21, 0);
        Check.same("9: 1 is more than 0", x.gap(0, 1), 1);
        Check.same("9: 1 is not more than 1", x.gap(1, 1), -1);
        x.note(0, 0, 0, 21, 0);
        Check.same("9: 0 is not more than 0", x.gap(0, 2), -1);
        x.strike(0, true);
        x.strike(1, true);
        x.strike(2, true);
        x.strike(3, true);
        x.note(0, 0, 0, 99_999, 0);
        x.note(0, 0, 0, 0, 0);
        Check.same("9: 99,999 is more than 99,998", x.gap(99_998, 0), 5);
        Check.same("9: length 99,999 is taken", x.gap(99_999, 0), -1);
        Check.refusedAsOutside("9: length 100,000", () -> x.gap(100_000, 0));
        Check.refusedAsOutside("9: length -1", () -> x.gap(-1, 0));
    }

    private static void gapNumber() {
        SceneTimes x = Scenes.atSecond(9);
        x.note(0, 0, 0, 9, 0);
        x.note(0, 0, 0, 6, 0);
        x.note(0, 0, 0, 3, 0);
        Check.same("9: the first", x.gap(2, 0), 2);
        Check.same("9: the last", x.gap(2, 1), 1);
        Check.same("9: not so many", x.gap(2, 2), -1);
        Check.same("9: not so many by far", x.gap(2, HIGHEST), -1);
        Check.refusedAsOutside("9: i is -1", () -> x.gap(2, -1));
        Check.refusedAsOutside("9: both", () -> x.gap(-1, -1));
    }

    private static void gapsOfFewNotes() {
        SceneTimes x = Scenes.atSecond(9);
        Check.same("9: no notes", x.gap(0, 0), -1);
        x.note(0, 0, 0, 1, 0);
        Check.same("9: one note", x.gap(0, 0), -1);
        x.note(0, 0, 0, 9, 0);
        Check.same("9: two notes", x.gap(0, 0), 0);
        x.strike(1, true);
        Check.same("9: one not struck", x.gap(0, 0), -1);
        x.strike(0, true);
        Check.same("9: all struck", x.gap(0, 0), -1);
    }

    /** The answers due were worked out apart from this program. */
    private static void digestIn32Bits() {
        SceneTimes x = Scenes.withWriters(10);
        x.note(0, 0, 0, 0, 0);
        x.note(0, 0, 0, 0, -1);
        Scenes.goOn(x, LAST_SECOND);
        x.note(9, 5, 9, 99_999, -9_999);
        x.note(9, 5, 9, 99_999, 9_999);
        Check.same("10: turned round", x.digest(0), 56);
        Check.same("10: a sum that wraps", x.digest(1), -58);
        Check.same("10: of the largest, lowest value", x.digest(2), 1_594_134_528);
        Check.same("10: of the largest, highest value", x.digest(3), -1_594_134_657);
        x.correct(1, 1);
        Check.same("10: one correction", x.digest(1), -7_168);
        x.correct(2, 9_999);
        Check.same("10: the first correction", x.digest(2), -2_107_920_706);
        x.correct(2, -1);
        Check.same("10: the second correction", x.digest(2), -769_089_347);
        x.correct(2, 0);
        Check.same("10: a correction to 0 counts", x.digest(2), 340_811_497);
        Check.refusedAsUnknown("10: note 4", () -> x.digest(4));
        Check.refusedAsUnknown("10: note -1", () -> x.digest(-1));
    }

    private static void numbersOfASheet() {
        SceneTimes x = Scenes.atSecond(LAST_SECOND);
        int[] seconds = {0, 1, 9, 10, 11, 99, 100, 101, 999, 1_000, 1_001, 9_999, 10_000, 10_001, 99_999};
        StringBuilder due = new StringBuilder("T15;");
        for (int second : seconds) {
            x.note(0, 0, 0, second, 0);
            due.append(second).append(":w0k0s0=0;");
        }
        x.ask(0, 100_000, -1, -1, LAST_SECOND);
        Check.same("12: seconds of all lengths", Scenes.sheet(x), due.toString());
    }

    private static void valuesOfASheet() {
        for (int value : new int[] {0, 1, 9, 10, 99, 100, 999, 1_000, 9_999}) {
            SceneTimes x = Scenes.atSecond(0);
            x.note(0, 0, 0, 0, value);
            x.note(0, 0, 0, 0, -value);
            x.strike(1, true);
            x.ask(0, 1, -1, -1, 0);
            Check.same("12: value " + value, Scenes.sheet(x), "T2;0:w0k0s0=" + value + ";0:w0k0s0=" + -value + "x;");
            x.strike(1, false);
            x.strike(0, true);
            Check.same("12: struck the other way", Scenes.sheet(x), "T2;0:w0k0s0=" + value + "x;0:w0k0s0=" + -value + ";");
        }
    }

    private static void headOfASheet() {
        SceneTimes x = Scenes.atSecond(0);
        for (int notes = 1; notes <= 100; notes++) {
            x.note(0, 0, 0, 0, 0);
            if (notes == 1 || notes == 9 || notes == 10 || notes == 11 || notes == 99 || notes == 100) {
                headOf(x, notes);
            }
        }
    }

    private static void headOf(SceneTimes x, int rows) {
        String due = "T" + rows + ";";
        x.ask(0, 1, -1, -1, 0);
        Check.same("12: bytes of " + rows + " rows", x.print(), due.length() + rows * 11);
        for (int i = 0; i < due.length(); i++) {
            Check.same("12: the head of " + rows + " rows", x.at(i), due.charAt(i));
        }
    }

    private static void endOfASheet() {
        SceneTimes x = Scenes.atSecond(0);
        Check.refusedByState("12: no question", x::print);
        Check.same("13: without a sheet", x.at(0), -1);
        Check.refusedAsOutside("13: -1 without a sheet", () -> x.at(-1));
        Check.same("6: no rows", x.ask(0, 1, -1, -1, 0), 0);
        Check.same("12: a question without rows", x.print(), 3);
        Check.same("13: the first byte", x.at(0), 'T');
        Check.same("13: the last byte", x.at(2), ';');
        Check.same("13: behind it", x.at(3), -1);
        Check.same("13: far behind it", x.at(HIGHEST), -1);
        Check.refusedAsOutside("13: -1", () -> x.at(-1));
        Check.refusedAsOutside("13: lowest", () -> x.at(LOWEST));
    }

    private static void writtenLater() {
        SceneTimes x = Scenes.atSecond(5);
        x.note(0, 0, 0, 4, 0);
        Check.same("15: a second later", x.count(4), 1);
        x.note(0, 0, 0, 5, 0);
        Check.same("15: at the same second", x.count(4), 1);
        x.tick(1);
        x.correct(1, 3);
        Check.same("15: corrected later is not written later", x.count(4), 1);
        x.strike(0, true);
        Check.same("15: struck or not", x.count(4), 1);
    }

    private static void struckNow() {
        SceneTimes x = Scenes.atSecond(5);
        for (int i = 0; i < 100; i++) {
            x.note(0, 0, 0, 5, 0);
        }
        Check.same("15: none struck", x.count(3), 0);
        for (int i = 0; i < 100; i++) {
            x.strike(i, true);
        }
        Check.same("15: all struck", x.count(3), 100);
        x.strike(99, false);
        Check.same("15: all but one", x.count(3), 99);
        x.strike(0, false);
        Check.same("15: all but two", x.count(3), 98);
    }
}

/** Each promise by itself: ordinary inputs, the edges that the document names, wrong inputs. */
public final class PromisesTest {
    private static final int LOWEST = Scenes.LOWEST;
    private static final int HIGHEST = Scenes.HIGHEST;

    public static void main(String[] args) {
        newObject();
        writer();
        note();
        noteRefusals();
        correct();
        strike();
        actsAreBounded();
        askSpanKindSector();
        askAsKnown();
        lineOrder();
        row();
        rowsFollowTheirSecond();
        reading();
        readingOfOneSecond();
        readingAtTheExtremes();
        gap();
        digest();
        noteAt();
        print();
        largestSheet();
        at();
        tick();
        count();
        Check.end();
    }

    private static void newObject() {
        SceneTimes x = new SceneTimes();
        for (int what = 0; what < 5; what++) {
            Check.same("1: count(" + what + ")", x.count(what), 0);
        }
        Check.refusedAsUnknown("1: row(0, 0)", () -> x.row(0, 0));
        Check.refusedAsUnknown("1: noteAt(0, 0)", () -> x.noteAt(0, 0));
        Check.refusedAsUnknown("1: digest(0)", () -> x.digest(0));
        Check.refusedAsUnknown("1: correct(0, 0)", () -> x.correct(0, 0));
        Check.refusedAsUnknown("1: strike(0, true)", () -> Scenes.strike(x, 0, true));
        Check.refusedAsUnknown("1: note without a writer", () -> x.note(0, 0, 0, 0, 0));
        Check.refusedByState("1: print()", x::print);
        Check.refusedByState("1: reading(0, 0)", () -> x.reading(0, 0));
        Check.same("1: at(0)", x.at(0), -1);
        Check.same("1: gap(0, 0)", x.gap(0, 0), -1);
        Check.same("1: ask", x.ask(0, 100_000, -1, -1, 0), 0);
        Check.refusedAsOutside("1: the second is 0", () -> x.ask(0, 1, -1, -1, 1));
        SceneTimes other = new SceneTimes();
        other.writer();
        Check.same("1: objects share nothing", x.count(0), 0);
    }

    private static void writer() {
        SceneTimes x = new SceneTimes();
        for (int i = 0; i < 10; i++) {
            Check.same("2: writer()", x.writer(), i);
        }
        Check.refusedForRoom("2: the 11th writer", x::writer);
        Check.refusedForRoom("2: the 11th writer again", x::writer);
        Check.same("2: count(0)", x.count(0), 10);
    }

    private static void note() {
        SceneTimes x = Scenes.atSecond(50);
        Check.same("3: first", x.note(0, 0, 0, 0, -9_999), 0);
        Check.same("3: edges", x.note(1, 5, 9, 50, 9_999), 1);
        Check.same("3: noteAt known", x.noteAt(0, 0), 50);
        Check.same("3: noteAt value", x.noteAt(0, 3), -9_999);
        Check.same("3: noteAt value", x.noteAt(1, 3), 9_999);
        for (int i = 2; i < 100; i++) {
            Check.same("3: number", x.note(0, 1, 1, 1, 1), i);
        }
        Check.refusedForRoom("3: the 101st", () -> x.note(0, 1, 1, 1, 1));
        Check.refusedAsUnknown("3: writer before room", () -> x.note(2, 1, 1, 1, 1));
        Check.refusedAsOutside("3: value before room", () -> x.note(0, 1, 1, 1, 10_000));
        Check.same("3: count(1)", x.count(1), 100);
    }

    private static void noteRefusals() {
        SceneTimes x = Scenes.atSecond(50);
        for (int bad : new int[] {-1, 2, 10, LOWEST, HIGHEST}) {
            Check.refusedAsUnknown("3: writer " + bad, () -> x.note(bad, 0, 0, 0, 0));
        }
        for (int bad : new int[] {-1, 6, LOWEST, HIGHEST}) {
            Check.refusedAsUnknown("3: kind " + bad, () -> x.note(0, bad, 0, 0, 0));
        }
        for (int bad : new int[] {-1, 10, LOWEST, HIGHEST}) {
            Check.refusedAsUnknown("3: sector " + bad, () -> x.note(0, 0, bad, 0, 0));
        }
        for (int bad : new int[] {-1, 51, LOWEST, HIGHEST}) {
            Check.refusedAsOutside("3: second " + bad, () -> x.note(0, 0, 0, bad, 0));
            Check.refusedAsUnknown("3: sector before second " + bad, () -> x.note(0, 0, 10, bad, 0));
        }
        for (int bad : new int[] {-10_000, 10_000, LOWEST, HIGHEST}) {
            Check.refusedAsOutside("3: value " + bad, () -> x.note(0, 0, 0, 0, bad));
            Check.refusedAsUnknown("3: kind before value " + bad, () -> x.note(0, 6, 0, 0, bad));
        }
        Check.same("3: no note was written", x.count(1), 0);
    }

    private static void correct() {
        SceneTimes x = Scenes.atSecond(5);
        x.note(0, 0, 0, 0, 1);
        x.note(0, 0, 0, 0, 2);
        Check.same("4: first", x.correct(0, -9_999), 1);
        Check.same("4: second", x.correct(0, 9_999), 2);
        Check.same("4: the same value counts", x.correct(0, 9_999), 3);
        Check.same("4: of another note", x.correct(1, 0), 1);
        Check.same("4: value now", x.noteAt(0, 3), 9_999);
        Check.same("4: first value stays", x.noteAt(0, 4), 1);
        for (int bad : new int[] {-1, 2, 100, LOWEST, HIGHEST}) {
            Check.refusedAsUnknown("4: note " + bad, () -> x.correct(bad, 10_000));
        }
        x.strike(0, true);
        Check.refusedByState("4: struck", () -> x.correct(0, 3));
        for (int bad : new int[] {-10_000, 10_000, LOWEST, HIGHEST}) {
            Check.refusedAsOutside("4: value before struck " + bad, () -> x.correct(0, bad));
        }
        x.strike(0, false);
        Check.same("4: strikes are no corrections", x.correct(0, 3), 4);
        Check.same("4: refused ones are no acts", x.count(2), 7);
    }

    private static void strike() {
        SceneTimes x = Scenes.atSecond(5);
        x.note(0, 0, 0, 0, 1);
        Check.refusedByState("5: not struck", () -> Scenes.strike(x, 0, false));
        Check.same("5: strikes", Scenes.strike(x, 0, true), 0);
        Check.same("5: struck now", x.noteAt(0, 2), 1);
        Check.refusedByState("5: struck already", () -> Scenes.strike(x, 0, true));
        Check.same("5: restores", Scenes.strike(x, 0, false), 0);
        Check.same("5: not struck now", x.noteAt(0, 2), 0);
        Check.same("5: the value stays", x.noteAt(0, 3), 1);
        for (int bad : new int[] {-1, 1, 100, LOWEST, HIGHEST}) {
            Check.refusedAsUnknown("5: note " + bad, () -> Scenes.strike(x, bad, true));
            Check.refusedAsUnknown("5: note " + bad, () -> Scenes.strike(x, bad, false));
        }
        Check.same("5: acts", x.count(2), 2);
    }

    private static void actsAreBounded() {
        SceneTimes x = Scenes.atSecond(0);
        x.note(0, 0, 0, 0, 1);
        x.note(0, 0, 0, 0, 2);
        x.strike(1, true);
        for (int i = 1; i < 200; i++) {
            Check.same("4: act", x.correct(0, i), i);
        }
        Check.same("4: acts", x.count(2), 200);
        Check.refusedForRoom("4: the 201st act", () -> x.correct(0, 5));
        Check.refusedForRoom("5: the 201st act", () -> Scenes.strike(x, 0, true));
        Check.refusedForRoom("5: the 201st act", () -> Scenes.strike(x, 1, false));
        Check.refusedByState("4: struck before room", () -> x.correct(1, 5));
        Check.refusedByState("5: state before room", () -> Scenes.strike(x, 1, true));
        Check.refusedByState("5: state before room", () -> Scenes.strike(x, 0, false));
        Check.refusedAsOutside("4: value before room", () -> x.correct(0, 10_000));
        Check.refusedAsUnknown("4: note before room", () -> x.correct(2, 0));
        Check.refusedAsUnknown("5: note before room", () -> Scenes.strike(x, 2, true));
        Check.same("4: nothing changed", x.noteAt(0, 3), 199);
        Check.same("4: acts still", x.count(2), 200);
    }

    private static void askSpanKindSector() {
        SceneTimes x = Scenes.atSecond(50);
        x.note(0, 0, 0, 10, 1);
        x.note(0, 1, 0, 20, 2);
        x.note(0, 1, 3, 30, 3);
        x.note(0, 5, 9, 50, 4);
        Check.same("6: all", x.ask(LOWEST, HIGHEST, -1, -1, 50), 4);
        Check.same("6: from is in", x.ask(10, 50, -1, -1, 50), 3);
        Check.same("6: from 11", x.ask(11, 51, -1, -1, 50), 3);
        Check.same("6: none between", x.ask(11, 20, -1, -1, 50), 0);
        Check.same("6: empty span", x.ask(10, 10, -1, -1, 50), 0);
        Check.same("6: turned span", x.ask(50, 10, -1, -1, 50), 0);
        Check.same("6: turned span", x.ask(HIGHEST, LOWEST, -1, -1, 50), 0);
        Check.same("6: kind", x.ask(0, 51, 1, -1, 50), 2);
        Check.same("6: sector", x.ask(0, 51, -1, 0, 50), 2);
        Check.same("6: both", x.ask(0, 51, 1, 3, 50), 1);
        Check.same("6: its note", x.row(0, 0), 2);
        for (int bad : new int[] {-2, 6, LOWEST, HIGHEST}) {
            Check.refusedAsUnknown("6: kind " + bad, () -> x.ask(0, 1, bad, 0, 51));
        }
        for (int bad : new int[] {-2, 10, LOWEST, HIGHEST}) {
            Check.refusedAsUnknown("6: sector " + bad, () -> x.ask(0, 1, 0, bad, -1));
        }
        for (int bad : new int[] {-1, 51, LOWEST, HIGHEST}) {
            Check.refusedAsOutside("6: known " + bad, () -> x.ask(0, 1, -1, -1, bad));
        }
        Check.same("6: refused ones leave the rows", x.row(0, 0), 2);
        Check.same("6: highest kind and sector", x.ask(0, 51, 5, 9, 50), 1);
    }

    private static void askAsKnown() {
        SceneTimes x = Scenes.atSecond(10);
        x.note(0, 0, 0, 3, 1);
        x.tick(10);
        x.note(0, 0, 0, 2, 2);
        x.correct(0, 11);
        x.correct(0, 12);
        x.tick(10);
        x.strike(0, true);
        Check.same("6: none known", x.ask(0, 30, -1, -1, 9), 0);
        Check.same("6: one known", x.ask(0, 30, -1, -1, 10), 1);
        Check.same("6: first value", x.row(0, 2), 1);
        Check.same("6: the last second before", x.ask(0, 30, -1, -1, 19), 1);
        Check.same("6: first value still", x.row(0, 2), 1);
        Check.same("6: both known", x.ask(0, 30, -1, -1, 20), 2);
        Check.same("6: by the seconds of things", x.row(0, 0), 1);
        Check.same("6: latest of one second", x.row(1, 2), 12);
        Check.same("6: not struck then", x.row(1, 3), 0);
        Check.same("6: struck ones stay in", x.ask(0, 30, -1, -1, 30), 2);
        Check.same("6: struck by now", x.row(1, 3), 1);
        Check.same("6: value of a struck one", x.row(1, 2), 12);
    }

    private static void lineOrder() {
        SceneTimes x = Scenes.atSecond(9);
        x.note(1, 0, 0, 5, 0);
        x.note(0, 5, 0, 5, 0);
        x.note(1, 0, 0, 4, 0);
        x.note(0, 0, 9, 5, 0);
        x.note(1, 3, 0, 5, 0);
        x.note(0, 0, 0, 6, 0);
        int[] due = {2, 1, 3, 0, 4, 5};
        Check.same("6: all", x.ask(0, 10, -1, -1, 9), 6);
        for (int i = 0; i < due.length; i++) {
            Check.same("6: row " + i, x.row(i, 0), due[i]);
        }
    }

    private static void row() {
        SceneTimes x = Scenes.atSecond(9);
        x.note(1, 4, 8, 5, -70);
        Check.refusedAsUnknown("7: before any question", () -> x.row(0, 0));
        x.note(0, 4, 8, 9, 7);
        x.strike(0, true);
        x.ask(0, 9, -1, -1, 9);
        long[] due = {0, 5, -70, 1, 1};
        for (int what = 0; what < due.length; what++) {
            Check.same("7: row(0, " + what + ")", x.row(0, what), due[what]);
        }
        for (int bad : new int[] {-1, 5, LOWEST, HIGHEST}) {
            Check.refusedAsUnknown("7: what " + bad, () -> x.row(0, bad));
        }
        for (int bad : new int[] {-1, 1, 100, LOWEST, HIGHEST}) {
            Check.refusedAsUnknown("7: row " + bad, () -> x.row(bad, 0));
        }
        x.ask(9, 10, -1, -1, 9);
        Check.same("7: the next question's rows", x.row(0, 0), 1);
        x.ask(0, 0, -1, -1, 9);
        Check.refusedAsUnknown("7: no rows any more", () -> x.row(0, 0));
    }

    private static void rowsFollowTheirSecond() {
        SceneTimes x = Scenes.atSecond(9);
        x.note(0, 0, 0, 1, 1);
        x.ask(0, 10, -1, -1, 9);
        x.correct(0, 2);
        Check.same("7: a later act of that second", x.row(0, 2), 2);
        x.strike(0, true);
        Check.same("7: a later strike of that second", x.row(0, 3), 1);
        x.note(0, 0, 0, 1, 5);
        Check.refusedAsUnknown("7: no later note", () -> x.row(1, 0));
        x.tick(1);
        x.strike(0, false);
        x.correct(0, 3);
        Check.same("7: not of the next second", x.row(0, 3), 1);
        Check.same("7: not of the next second", x.row(0, 2), 2);
        Check.same("12: nor printed", Scenes.sheet(x), "T1;1:w0k0s0=2x;");
    }

    private static void reading() {
        SceneTimes x = Scenes.atSecond(100);
        x.note(0, 2, 4, 10, 0);
        x.note(0, 2, 4, 13, 2);
        x.note(0, 2, 4, 16, -2);
        x.note(0, 1, 4, 11, 500);
        x.note(0, 2, 5, 11, 500);
        int[] due = {0, 0, 1, 2, 0, -1, -2};
        for (int t = 10; t <= 16; t++) {
            Check.same("8: reading at " + t, x.reading(4, t), due[t - 10]);
        }
        Check.refusedByState("8: before the first", () -> x.reading(4, 9));
        Check.refusedByState("8: behind the last", () -> x.reading(4, 17));
        Check.refusedByState("8: none of the sector", () -> x.reading(3, 11));
        Check.same("8: one alone", x.reading(5, 11), 500);
        Check.refusedByState("8: behind one alone", () -> x.reading(5, 12));
        for (int bad : new int[] {-1, 10, LOWEST, HIGHEST}) {
            Check.refusedAsUnknown("8: sector " + bad, () -> x.reading(bad, 101));
        }
        for (int bad : new int[] {-1, 101, LOWEST, HIGHEST}) {
            Check.refusedAsOutside("8: second " + bad, () -> x.reading(4, bad));
        }
        Check.refusedByState("8: the present second", () -> x.reading(4, 100));
        x.strike(1, true);
        Check.same("8: over a struck one", x.reading(4, 13), -1);
        x.correct(2, -9);
        Check.same("8: by the corrected value", x.reading(4, 13), -5);
        x.correct(0, 11);
        Check.same("8: by the earlier one's corrected value", x.reading(4, 13), 1);
        Check.same("8: at its second the corrected value", x.reading(4, 10), 11);
        x.strike(1, false);
        Check.same("8: restored", x.reading(4, 13), 2);
        x.strike(2, true);
        Check.refusedByState("8: the last one struck", () -> x.reading(4, 14));
    }

    private static void readingOfOneSecond() {
        SceneTimes x = Scenes.atSecond(100);
        x.note(0, 2, 0, 10, 0);
        x.note(1, 2, 0, 20, 900);
        x.note(0, 2, 0, 20, 100);
        x.note(0, 2, 0, 30, 0);
        Check.same("8: up to the first in the line", x.reading(0, 15), 50);
        Check.same("8: at the second the last one", x.reading(0, 20), 900);
        Check.same("8: on from the last one", x.reading(0, 25), 450);
        x.strike(1, true);
        Check.same("8: the last that is not struck", x.reading(0, 20), 100);
        Check.same("8: on from it", x.reading(0, 25), 50);
    }

    private static void readingAtTheExtremes() {
        SceneTimes x = Scenes.atSecond(0);
        Scenes.goOn(x, Scenes.LAST_SECOND);
        x.note(0, 2, 0, 0, -9_999);
        x.note(0, 2, 0, 99_999, 9_999);
        x.note(0, 2, 1, 0, 9_999);
        x.note(0, 2, 1, 99_999, -9_999);
        Check.same("8: steepest up", x.reading(0, 99_998), 9_998);
        Check.same("8: steepest up", x.reading(0, 1), -9_999);
        Check.same("8: steepest down", x.reading(1, 99_998), -9_999);
        Check.same("8: steepest down", x.reading(1, 1), 9_998);
        Check.same("8: the last second", x.reading(1, 99_999), -9_999);
        Check.same("9: the widest gap", x.gap(99_998, 0), 2);
        Check.same("9: none wider", x.gap(99_999, 0), -1);
    }

    private static void gap() {
        SceneTimes x = Scenes.atSecond(100);
        x.note(0, 0, 0, 0, 0);
        x.note(1, 1, 1, 10, 0);
        x.note(0, 2, 2, 10, 0);
        x.note(0, 3, 3, 40, 0);
        x.note(0, 4, 4, 41, 0);
        Check.same("9: first", x.gap(9, 0), 0);
        Check.same("9: from the last one of a second", x.gap(9, 1), 1);
        Check.same("9: no more", x.gap(9, 2), -1);
        Check.same("9: more than the length", x.gap(10, 0), 1);
        Check.same("9: length 0", x.gap(0, 2), 3);
        Check.same("9: length 0", x.gap(0, 3), -1);
        Check.same("9: length 1", x.gap(1, 2), -1);
        Check.same("9: just as long", x.gap(30, 0), -1);
        Check.same("9: far i", x.gap(0, HIGHEST), -1);
        Check.same("9: longest length", x.gap(99_999, 0), -1);
        x.strike(1, true);
        Check.same("9: from the one not struck", x.gap(10, 0), 2);
        x.strike(2, true);
        Check.same("9: over struck ones", x.gap(39, 0), 0);
        x.strike(0, true);
        Check.same("9: without a struck first", x.gap(0, 0), 3);
        x.strike(0, false);
        Check.same("9: restored", x.gap(39, 0), 0);
        for (int bad : new int[] {-1, 100_000, LOWEST, HIGHEST}) {
            Check.refusedAsOutside("9: length " + bad, () -> x.gap(bad, 0));
        }
        for (int bad : new int[] {-1, LOWEST}) {
            Check.refusedAsOutside("9: i " + bad, () -> x.gap(0, bad));
        }
    }

    private static int digestOf(int... values) {
        int d = 7;
        for (int v : values) {
            d = Integer.rotateLeft(d ^ v, 7) + v;
        }
        return d;
    }

    private static void digest() {
        SceneTimes x = Scenes.atSecond(1_000);
        x.note(1, 3, 9, 777, -5_432);
        x.note(0, 0, 0, 0, 1);
        Check.same("10: as in the document", x.digest(0), digestOf(1, 3, 9, 777, -5_432));
        Check.same("10: small", x.digest(1), 185);
        x.correct(0, 17);
        x.tick(1);
        x.correct(0, 17);
        x.correct(0, -9_999);
        Check.same("10: with corrections", x.digest(0), digestOf(1, 3, 9, 777, -5_432, 17, 17, -9_999));
        x.strike(0, true);
        Check.same("10: strikes leave it", x.digest(0), digestOf(1, 3, 9, 777, -5_432, 17, 17, -9_999));
        Check.same("10: another note's stays", x.digest(1), 185);
        for (int bad : new int[] {-1, 2, 100, LOWEST, HIGHEST}) {
            Check.refusedAsUnknown("10: note " + bad, () -> x.digest(bad));
        }
    }

    private static void noteAt() {
        SceneTimes x = Scenes.atSecond(30);
        x.note(0, 0, 0, 4, 1);
        x.note(1, 3, 9, 7, -5);
        x.tick(3);
        x.correct(1, 6);
        x.strike(1, true);
        x.strike(1, false);
        x.strike(1, true);
        long[] due = {30, 4, 1, 6, -5};
        long[] dueOfOther = {30, 0, 0, 1, 1};
        for (int what = 0; what < due.length; what++) {
            Check.same("11: noteAt(1, " + what + ")", x.noteAt(1, what), due[what]);
            Check.same("11: noteAt(0, " + what + ")", x.noteAt(0, what), dueOfOther[what]);
        }
        for (int bad : new int[] {-1, 5, LOWEST, HIGHEST}) {
            Check.refusedAsUnknown("11: what " + bad, () -> x.noteAt(0, bad));
        }
        for (int bad : new int[] {-1, 2, 100, LOWEST, HIGHEST}) {
            Check.refusedAsUnknown("11: note " + bad, () -> x.noteAt(bad, 0));
        }
    }

    private static void print() {
        SceneTimes x = Scenes.atSecond(2_000);
        x.note(1, 5, 9, 1_000, -10);
        x.note(0, 0, 3, 0, 0);
        x.strike(0, true);
        Check.refusedByState("12: no question yet", x::print);
        Check.refusedAsUnknown("12: a refused question", () -> x.ask(0, 1, 6, 0, 0));
        Check.refusedByState("12: still none", x::print);
        x.ask(0, 3_000, -1, -1, 2_000);
        Check.same("12: the sheet", Scenes.sheet(x), "T2;0:w0k0s3=0;1000:w1k5s9=-10x;");
        x.correct(1, 101);
        Check.same("12: by later acts of the second", Scenes.sheet(x), "T2;0:w0k0s3=101;1000:w1k5s9=-10x;");
        x.ask(0, 3_000, -1, -1, 1_999);
        Check.same("12: a question without rows", Scenes.sheet(x), "T0;");
    }

    private static void largestSheet() {
        SceneTimes x = Scenes.withWriters(10);
        Scenes.goOn(x, 95_000);
        StringBuilder due = new StringBuilder("T100;");
        for (int i = 0; i < 100; i++) {
            x.note(9, 5, 9, 95_000, -9_999);
            x.strike(i, true);
            due.append("95000:w9k5s9=-9999x;");
        }
        x.ask(0, 100_000, 5, 9, 95_000);
        int size = x.print();
        Check.same("12: the largest sheet", size, 2_005);
        for (int i = 0; i < size; i += 31) {
            Check.same("12: byte " + i, x.at(i), due.charAt(i));
        }
        Check.same("12: the last byte", x.at(size - 1), ';');
        Check.same("13: behind it", x.at(size), -1);
    }

    private static void at() {
        SceneTimes x = Scenes.atSecond(5);
        Check.same("13: without a sheet", x.at(0), -1);
        Check.same("13: without a sheet", x.at(HIGHEST), -1);
        x.note(0, 0, 0, 3, 4);
        x.ask(0, 9, -1, -1, 5);
        Check.same("13: asked is not printed", x.at(0), -1);
        Check.same("13: print", x.print(), 14);
        String due = "T1;3:w0k0s0=4;";
        x.correct(0, 77);
        x.ask(0, 0, -1, -1, 5);
        for (int i = 0; i < due.length(); i++) {
            Check.same("13: the sheet stays, byte " + i, x.at(i), due.charAt(i));
        }
        Check.same("13: behind it", x.at(due.length()), -1);
        Check.same("13: print", x.print(), 3);
        Check.same("13: a shorter sheet ends sooner", x.at(3), -1);
        Check.same("13: far behind", x.at(HIGHEST), -1);
        Check.refusedAsOutside("13: below 0", () -> x.at(-1));
        Check.refusedAsOutside("13: below 0", () -> x.at(LOWEST));
    }

    private static void tick() {
        SceneTimes x = new SceneTimes();
        for (int bad : new int[] {0, -1, 5_001, LOWEST, HIGHEST}) {
            Check.refusedAsOutside("14: tick " + bad, () -> x.tick(bad));
        }
        Check.same("14: one", x.tick(1), 1);
        for (int i = 1; i < 20; i++) {
            Check.same("14: the most", x.tick(5_000), 1 + i * 5_000);
        }
        Check.refusedAsOutside("14: beyond", () -> x.tick(4_999));
        Check.same("14: up to the last", x.tick(4_998), 99_999);
        Check.refusedAsOutside("14: beyond", () -> x.tick(1));
        Check.refusedAsOutside("14: beyond", () -> x.tick(5_000));
        Check.same("14: the second stays", x.ask(0, 1, -1, -1, 99_999), 0);
    }

    private static void count() {
        SceneTimes x = Scenes.atSecond(5);
        x.writer();
        x.note(0, 0, 0, 5, 0);
        x.note(0, 0, 0, 4, 0);
        x.tick(1);
        x.note(0, 0, 0, 6, 0);
        x.note(0, 0, 0, 0, 0);
        x.correct(3, 4);
        x.strike(1, true);
        x.strike(3, true);
        x.strike(1, false);
        x.strike(0, true);
        long[] due = {3, 4, 5, 2, 2};
        for (int what = 0; what < due.length; what++) {
            Check.same("15: count(" + what + ")", x.count(what), due[what]);
        }
        for (int bad : new int[] {-1, 5, LOWEST, HIGHEST}) {
            Check.refusedAsUnknown("15: count(" + bad + ")", () -> x.count(bad));
        }
    }
}

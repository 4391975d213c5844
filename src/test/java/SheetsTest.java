/** Promises 30 to 40: SHEETS, TELLING, SPOKEN, kinds, TRACE, FAULTS, how many. */
public final class SheetsTest {
    private static final int BYTES = 0, SHORTS = 1, INTS = 2;
    private static final long LOST = Long.MIN_VALUE;

    private final Check check = new Check();

    public static void main(String[] args) {
        SheetsTest test = new SheetsTest();
        test.promise30Sheet();
        test.promise31Lose();
        test.promise32Put();
        test.promise33Cell();
        test.promise34Copy();
        test.promise34CopyRefusalsAndFaults();
        test.promise35Tell();
        test.promise36Speak();
        test.promise37As();
        test.promise38Trace();
        test.promise39Fault();
        test.promise40Many();
        test.check.end();
    }

    /** The answer and then fault(). */
    private void due(ShakyScreens s, String call, long want, int fault, long got) {
        check.due(call, want, got);
        check.due("fault() behind " + call, fault, s.fault());
    }

    private void promise30Sheet() {
        ShakyScreens s = new ShakyScreens();
        due(s, "sheet(0, 0, 2)", 1, 0, s.sheet(0, BYTES, 2));
        s.put(0, 1, 5);
        due(s, "sheet(0, 0, -1)", -14, 4, s.sheet(0, BYTES, -1));
        due(s, "a refused sheet() changes nothing", 5, 0, s.cell(0, 1, BYTES));
        due(s, "sheet(0, 1, min)", -14, 4, s.sheet(0, SHORTS, Integer.MIN_VALUE));
        due(s, "sheet(0, 0, 61)", -2, 0, s.sheet(0, BYTES, 61));
        due(s, "sheet(0, 3, -1)", -2, 0, s.sheet(0, 3, -1));
        due(s, "sheet(0, -1, 1)", -2, 0, s.sheet(0, -1, 1));
        due(s, "sheet(4, 9, -1)", -1, 0, s.sheet(4, 9, -1));
        due(s, "sheet(-1, 0, 1)", -1, 0, s.sheet(-1, BYTES, 1));
        due(s, "sheet(0, 2, 60)", 1, 0, s.sheet(0, INTS, 60));
        due(s, "cells are 0 at first", 0, 0, s.cell(0, 1, INTS));
        due(s, "the last cell", 0, 0, s.cell(0, 59, INTS));
        due(s, "sheet(3, 1, 0)", 1, 0, s.sheet(3, SHORTS, 0));
        due(s, "a row of no cells", -13, 3, s.put(3, 0, 1));
    }

    private void promise31Lose() {
        ShakyScreens s = new ShakyScreens();
        check.due("lose(0) at first", 0, s.lose(0));
        s.sheet(0, BYTES, 0);
        s.sheet(1, BYTES, 1);
        check.due("lose(0)", 1, s.lose(0));
        check.due("lose(0) again", 0, s.lose(0));
        check.due("another SHEET stays", 1, s.put(1, 0, 1));
        check.due("lose(4)", -1, s.lose(4));
        check.due("lose(-1)", -1, s.lose(-1));
    }

    private void promise32Put() {
        ShakyScreens s = new ShakyScreens();
        due(s, "put(0, -1, 0) into nothing", -11, 1, s.put(0, -1, 0));
        due(s, "put(4, 0, 0)", -1, 0, s.put(4, 0, 0));
        int[] kept = {(byte) 70001, (short) 70001, 70001};
        int[] least = {-128, -32768, Integer.MIN_VALUE};
        for (int lane = 0; lane < 3; lane++) {
            s.sheet(lane, lane, 2);
            due(s, "put() in LANE " + lane, 1, 0, s.put(lane, 1, 70001));
            check.due("cut to LANE " + lane, kept[lane], s.cell(lane, 1, lane));
            s.put(lane, 1, least[lane]);
            check.due("the least of LANE " + lane, least[lane], s.cell(lane, 1, lane));
            s.put(lane, 1, -least[lane] - 1);
            check.due("the most of LANE " + lane, -(long) least[lane] - 1, s.cell(lane, 1, lane));
            check.due("another cell stays", 0, s.cell(lane, 0, lane));
            due(s, "put() at 2", -13, 3, s.put(lane, 2, 1));
            due(s, "put() at -1", -13, 3, s.put(lane, -1, 1));
        }
    }

    private void promise33Cell() {
        ShakyScreens s = new ShakyScreens();
        due(s, "cell() of nothing", LOST, 1, s.cell(0, -1, BYTES));
        s.sheet(0, SHORTS, 3);
        s.put(0, 2, -7);
        due(s, "cell(0, 2, 1)", -7, 0, s.cell(0, 2, SHORTS));
        due(s, "another LANE", LOST, 2, s.cell(0, 9, BYTES));
        due(s, "a wider LANE", LOST, 2, s.cell(0, 2, INTS));
        due(s, "cell(0, 3, 1)", LOST, 3, s.cell(0, 3, SHORTS));
        due(s, "cell(0, -1, 1)", LOST, 3, s.cell(0, -1, SHORTS));
        s.sheet(3, INTS, 1);
        s.put(3, 0, 8);
        due(s, "cell(3, 0, 2)", 8, 0, s.cell(3, 0, INTS));
        due(s, "cell(0, 0, 3)", LOST, 0, s.cell(0, 0, 3));
        due(s, "cell(0, 0, -1)", LOST, 0, s.cell(0, 0, -1));
        due(s, "cell(4, 0, 0)", LOST, 0, s.cell(4, 0, 0));
        due(s, "cell(-1, 0, 0)", LOST, 0, s.cell(-1, 0, 0));
    }

    private static ShakyScreens counting(int lane) {
        ShakyScreens s = new ShakyScreens();
        for (int k = 0; k < 2; k++) {
            s.sheet(k, lane, 5);
            for (int i = 0; i < 5; i++) {
                s.put(k, i, 10 * k + i);
            }
        }
        return s;
    }

    private void dueRow(ShakyScreens s, int k, int lane, int... cells) {
        for (int i = 0; i < cells.length; i++) {
            check.due("cell " + i + " of SHEET " + k, cells[i], s.cell(k, i, lane));
        }
    }

    private void promise34Copy() {
        for (int lane = 0; lane < 3; lane++) {
            ShakyScreens s = counting(lane);
            due(s, "copy(0, 1, 1, 2, 3)", 3, 0, s.copy(0, 1, 1, 2, 3));
            dueRow(s, 0, lane, 0, 1, 2, 3, 4);
            dueRow(s, 1, lane, 10, 11, 1, 2, 3);
            due(s, "on by one within a SHEET", 4, 0, s.copy(0, 0, 0, 1, 4));
            dueRow(s, 0, lane, 0, 0, 1, 2, 3);
            due(s, "back by two within a SHEET", 3, 0, s.copy(0, 2, 0, 0, 3));
            dueRow(s, 0, lane, 1, 2, 3, 2, 3);
            due(s, "no cells behind the last", 0, 0, s.copy(0, 5, 1, 5, 0));
        }
    }

    private void promise34CopyRefusalsAndFaults() {
        ShakyScreens s = counting(BYTES);
        s.sheet(2, INTS, 5);
        int[][] calls = {
            {4, 0, 3, 0, 1, -1}, {0, 0, 4, 0, 1, -1}, {-1, 0, 0, 0, 1, -1}, {3, 0, 4, 0, 1, -1}, {3, 0, 0, -1, 1, -11},
            {2, 0, 3, -1, 1, -11}, {3, 0, 3, 0, -1, -11}, {0, 0, 2, -1, -1, -12}, {0, -1, 1, 0, 0, -13},
            {0, 0, 1, -1, 0, -13}, {0, 0, 1, 0, -1, -13}, {0, 6, 1, 0, 0, -13}, {0, 0, 1, 6, 0, -13},
            {0, 5, 1, 0, 1, -13}, {0, 0, 1, 3, 3, -13}, {0, 3, 1, 0, 3, -13}, {0, 0, 1, 0, 6, -13},
            {0, 1, 1, 1, Integer.MAX_VALUE, -13}, {0, Integer.MAX_VALUE, 1, 0, 1, -13},
            {0, 0, 1, Integer.MAX_VALUE, Integer.MAX_VALUE, -13}};
        for (int[] call : calls) {
            due(s, "copy" + java.util.Arrays.toString(call), call[5], call[5] < -10 ? -10 - call[5] : 0,
                    s.copy(call[0], call[1], call[2], call[3], call[4]));
        }
        dueRow(s, 0, BYTES, 0, 1, 2, 3, 4);
        dueRow(s, 1, BYTES, 10, 11, 12, 13, 14);
    }

    private static int traceOf(int trace, int... bodies) {
        int now = trace;
        for (int body : bodies) {
            now = 31 * now + body;
        }
        return now;
    }

    private void promise35Tell() {
        ShakyScreens s = Texts.screens("p5;d7;x9", 0);
        check.due("tell(0)", 5, s.tell(0));
        check.due("TRACE of a PART", traceOf(0, 1), s.trace());
        s = Texts.screens("p5;d7;x9", 0);
        check.due("tell(1)", 1007, s.tell(1));
        check.due("TRACE of a DEED", traceOf(0, 2, 1), s.trace());
        s = Texts.screens("p5;d7;x9", 0);
        check.due("tell(2)", 1018, s.tell(2));
        check.due("TRACE of a DANGER", traceOf(0, 3, 2, 1, 1), s.trace());
        s.wish(2, 999);
        check.due("tell(2) as WISHES are now", 2998, s.tell(2));
        int trace = s.trace();
        check.due("tell(3)", -1, s.tell(3));
        check.due("tell(-1)", -1, s.tell(-1));
        check.due("TRACE stays", trace, s.trace());
    }

    private void promise36Speak() {
        ShakyScreens s = Texts.screens("p5;d7;x9;p1", 0);
        check.due("speak(0)", 0, s.speak(0));
        check.due("speak(1)", 1, s.speak(1));
        check.due("speak(3)", 3, s.speak(3));
        check.due("TRACE of the lent body", traceOf(0, 4, 4, 4), s.trace());
        check.due("speak(2)", 99, s.speak(2));
        check.due("TRACE of DANGER's own", traceOf(0, 4, 4, 4, 5), s.trace());
        check.due("speak(4)", -1, s.speak(4));
        check.due("speak(-1)", -1, s.speak(-1));
        check.due("TRACE stays", traceOf(0, 4, 4, 4, 5), s.trace());
    }

    private void promise37As() {
        ShakyScreens s = Texts.screens("p5;d7;x9", 0);
        for (int x = 0; x < 3; x++) {
            for (int kind = 0; kind < 3; kind++) {
                boolean is = kind <= x;
                due(s, "as(" + x + ", " + kind + ")", is ? 1 : -12, is ? 0 : 2, s.as(x, kind));
            }
            due(s, "as(" + x + ", 3)", -2, 0, s.as(x, 3));
            due(s, "as(" + x + ", -1)", -2, 0, s.as(x, -1));
        }
        due(s, "as(3, 3)", -1, 0, s.as(3, 3));
        due(s, "as(-1, 0)", -1, 0, s.as(-1, 0));
    }

    private void promise38Trace() {
        ShakyScreens s = Texts.screens("x9", 0);
        check.due("trace() at first", 0, s.trace());
        int trace = 0;
        for (int k = 0; k < 5; k++) {
            s.tell(0);
            trace = traceOf(trace, 3, 2, 1, 1);
            check.due("trace() wraps", trace, s.trace());
        }
        Texts.take(s, "p1");
        check.due("a TEXT leaves it", trace, s.trace());
    }

    private void promise39Fault() {
        ShakyScreens s = Texts.screens("p1", 1);
        check.due("fault() at first", 0, new ShakyScreens().fault());
        s.put(0, 0, 0);
        check.due("fault()", 1, s.fault());
        check.due("fault() leaves it", 1, s.fault());
        s.lose(0);
        s.tell(0);
        s.speak(9);
        s.lay(0, 1);
        s.many(9);
        s.press(0, 5, 5, 0);
        check.due("calls that name no FAULTS leave it", 1, s.fault());
        s.text(9, 0, 0, 0);
        check.due("a refused text() clears it", 0, s.fault());
        s.put(0, 0, 0);
        s.put(9, 0, 0);
        check.due("a refused put() clears it", 0, s.fault());
        s.put(0, 0, 0);
        s.cell(9, 0, 0);
        check.due("a refused cell() clears it", 0, s.fault());
        s.put(0, 0, 0);
        s.copy(9, 0, 0, 0, 0);
        check.due("a refused copy() clears it", 0, s.fault());
        s.put(0, 0, 0);
        s.as(9, 0);
        check.due("a refused as() clears it", 0, s.fault());
        s.put(0, 0, 0);
        s.sheet(0, 9, 0);
        check.due("a refused sheet() clears it", 0, s.fault());
        s.put(0, 0, 0);
        s.sheet(0, 0, 3);
        check.due("a call that comes to none clears it", 0, s.fault());
        s.put(0, 3, 0);
        check.due("a faulty TEXT is no FAULT", -100, s.text(0, 0, 0, 3));
        check.due("fault() behind it", 0, s.fault());
    }

    private void promise40Many() {
        ShakyScreens s = Texts.screens("p5;d7;x9", 2);
        check.due("many(0)", 3, s.many(0));
        check.due("many(1)", 2, s.many(1));
        check.due("many(2)", -2, s.many(2));
        check.due("many(-1)", -2, s.many(-1));
    }
}

/** Promises 30 to 40: SHEETS, TELLING, SPOKEN, kinds, TRACE, FAULTS, how many. */
public final class SheetsTest {
    private static final int BYTES = 0, SHORTS = 1, INTS = 2;
    private static final long LOST = Long.MIN_VALUE;

    private final Check check = new Check();

    public static void main(String[] args) {
        SheetsTest test = new SheetsTest();
        test.promise30Sheet();
        test.promise30EverySheetAndLane();
        test.promise31Lose();
        test.promise32Put();
        test.promise32CutToTheEdge();
        test.promise32And33EveryCell();
        test.promise33Cell();
        test.promise34Copy();
        test.promise34CopyOfWholeRows();
        test.promise34CopyOfUnlikeLengths();
        test.promise34CopyRefusalsAndFaults();
        test.promise35Tell();
        test.promise36Speak();
        test.promise37As();
        test.promise38Trace();
        test.promise39Fault();
        test.promise39FaultOfEachCall();
        test.promise40Many();
        test.promise40ManyWhenFull();
        test.check.end();
    }

    /** The answer and then fault(). */
    private void due(ShakyScreens s, String call, long want, int fault, long got) {
        check.due(call, want, got);
        check.due("fault() behind " + call, fault, s.fault());
    }

    private void promise30Sheet() {
        ShakyScreens s = new ShakyScreens();
        due(s, "sheet(0, 0, 2)", 1, 0, s.sheet(0, BYTES, 2));
        s.put(0, 1, 5);
        due(s, "sheet(0, 0, -1)", -14, 4, s.sheet(0, BYTES, -1));
        due(s, "a refused sheet() changes nothing", 5, 0, s.cell(0, 1, BYTES));
        due(s, "sheet(0, 1, min)", -14, 4, s.sheet(0, SHORTS, Integer.MIN_VALUE));
        due(s, "sheet(0, 0, 61)", -2, 0, s.sheet(0, BYTES, 61));
        due(s, "sheet(0, 3, -1)", -2, 0, s.sheet(0, 3, -1));
        due(s, "sheet(0, -1, 1)", -2, 0, s.sheet(0, -1, 1));
        due(s, "sheet(4, 9, -1)", -1, 0, s.sheet(4, 9, -1));
        due(s, "sheet(-1, 0, 1)", -1, 0, s.sheet(-1, BYTES, 1));
        due(s, "sheet(0, 2, 60)", 1, 0, s.sheet(0, INTS, 60));
        due(s, "cells are 0 at first", 0, 0, s.cell(0, 1, INTS));
        due(s, "the last cell", 0, 0, s.cell(0, 59, INTS));
        due(s, "sheet(3, 1, 0)", 1, 0, s.sheet(3, SHORTS, 0));
        due(s, "a row of no cells", -13, 3, s.put(3, 0, 1));
    }

    private void promise30EverySheetAndLane() {
        ShakyScreens s = new ShakyScreens();
        int[] sizes = {0, 1, 59, 60};
        for (int k = 0; k < 4; k++) {
            for (int lane = 0; lane < 3; lane++) {
                for (int n : sizes) {
                    due(s, "a row of " + n, 1, 0, s.sheet(k, lane, n));
                    due(s, "its last cell", n == 0 ? LOST : 0, n == 0 ? 3 : 0, s.cell(k, n - 1, lane));
                    due(s, "beyond its last cell", LOST, 3, s.cell(k, n, lane));
                }
                s.put(k, 0, 5);
                due(s, "a new row of the same size", 1, 0, s.sheet(k, lane, 60));
                due(s, "is 0 at first", 0, 0, s.cell(k, 0, lane));
            }
            check.due("no other SHEET has one", 1, s.lose(k));
        }
    }

    private void promise31Lose() {
        ShakyScreens s = new ShakyScreens();
        check.due("lose(0) at first", 0, s.lose(0));
        s.sheet(0, BYTES, 0);
        s.sheet(1, BYTES, 1);
        check.due("lose(0)", 1, s.lose(0));
        check.due("lose(0) again", 0, s.lose(0));
        check.due("another SHEET stays", 1, s.put(1, 0, 1));
        check.due("lose(4)", -1, s.lose(4));
        check.due("lose(-1)", -1, s.lose(-1));
    }

    private void promise32Put() {
        ShakyScreens s = new ShakyScreens();
        due(s, "put(0, -1, 0) into nothing", -11, 1, s.put(0, -1, 0));
        due(s, "put(4, 0, 0)", -1, 0, s.put(4, 0, 0));
        int[] kept = {(byte) 70001, (short) 70001, 70001};
        int[] least = {-128, -32768, Integer.MIN_VALUE};
        for (int lane = 0; lane < 3; lane++) {
            s.sheet(lane, lane, 2);
            due(s, "put() in LANE " + lane, 1, 0, s.put(lane, 1, 70001));
            check.due("cut to LANE " + lane, kept[lane], s.cell(lane, 1, lane));
            s.put(lane, 1, least[lane]);
            check.due("the least of LANE " + lane, least[lane], s.cell(lane, 1, lane));
            s.put(lane, 1, -least[lane] - 1);
            check.due("the most of LANE " + lane, -(long) least[lane] - 1, s.cell(lane, 1, lane));
            check.due("another cell stays", 0, s.cell(lane, 0, lane));
            due(s, "put() at 2", -13, 3, s.put(lane, 2, 1));
            due(s, "put() at -1", -13, 3, s.put(lane, -1, 1));
        }
    }

    /** What is just beyond a LANE comes in from its other end. */
    private void promise32CutToTheEdge() {
        ShakyScreens s = new ShakyScreens();
        int[][] puts = {
            {0, 127, 127}, {0, 128, -128}, {0, -128, -128}, {0, -129, 127}, {0, 255, -1}, {0, 256, 0}, {0, 32768, 0},
            {0, Integer.MAX_VALUE, -1}, {0, Integer.MIN_VALUE, 0}, {1, 128, 128}, {1, 32767, 32767}, {1, 32768, -32768},
            {1, -32768, -32768}, {1, -32769, 32767}, {1, 65535, -1}, {1, 65536, 0}, {1, Integer.MAX_VALUE, -1},
            {1, Integer.MIN_VALUE, 0}, {2, 65536, 65536}, {2, Integer.MAX_VALUE, Integer.MAX_VALUE},
            {2, Integer.MIN_VALUE, Integer.MIN_VALUE}, {2, -1, -1}};
        for (int lane = 0; lane < 3; lane++) {
            s.sheet(lane, lane, 1);
        }
        for (int[] put : puts) {
            String call = "put " + put[1] + " in LANE " + put[0];
            due(s, call, 1, 0, s.put(put[0], 0, put[1]));
            due(s, "cell behind " + call, put[2], 0, s.cell(put[0], 0, put[0]));
        }
    }

    private void promise32And33EveryCell() {
        ShakyScreens s = new ShakyScreens();
        for (int lane = 0; lane < 3; lane++) {
            s.sheet(0, lane, 60);
            for (int i = 0; i < 60; i++) {
                check.due("put at " + i, 1, s.put(0, i, 3 * i - 60));
            }
            for (int i = 0; i < 60; i++) {
                check.due("cell " + i, 3 * i - 60, s.cell(0, i, lane));
            }
            due(s, "put at 60", -13, 3, s.put(0, 60, 1));
            due(s, "cell 60", LOST, 3, s.cell(0, 60, lane));
        }
    }

    private void promise33Cell() {
        ShakyScreens s = new ShakyScreens();
        due(s, "cell() of nothing", LOST, 1, s.cell(0, -1, BYTES));
        s.sheet(0, SHORTS, 3);
        s.put(0, 2, -7);
        due(s, "cell(0, 2, 1)", -7, 0, s.cell(0, 2, SHORTS));
        due(s, "another LANE", LOST, 2, s.cell(0, 9, BYTES));
        due(s, "a wider LANE", LOST, 2, s.cell(0, 2, INTS));
        due(s, "cell(0, 3, 1)", LOST, 3, s.cell(0, 3, SHORTS));
        due(s, "cell(0, -1, 1)", LOST, 3, s.cell(0, -1, SHORTS));
        s.sheet(3, INTS, 1);
        s.put(3, 0, 8);
        due(s, "cell(3, 0, 2)", 8, 0, s.cell(3, 0, INTS));
        due(s, "cell(0, 0, 3)", LOST, 0, s.cell(0, 0, 3));
        due(s, "cell(0, 0, -1)", LOST, 0, s.cell(0, 0, -1));
        due(s, "cell(4, 0, 0)", LOST, 0, s.cell(4, 0, 0));
        due(s, "cell(-1, 0, 0)", LOST, 0, s.cell(-1, 0, 0));
    }

    private static ShakyScreens counting(int lane) {
        ShakyScreens s = new ShakyScreens();
        for (int k = 0; k < 2; k++) {
            s.sheet(k, lane, 5);
            for (int i = 0; i < 5; i++) {
                s.put(k, i, 10 * k + i);
            }
        }
        return s;
    }

    private void dueRow(ShakyScreens s, int k, int lane, int... cells) {
        for (int i = 0; i < cells.length; i++) {
            check.due("cell " + i + " of SHEET " + k, cells[i], s.cell(k, i, lane));
        }
    }

    private void promise34Copy() {
        for (int lane = 0; lane < 3; lane++) {
            ShakyScreens s = counting(lane);
            due(s, "copy(0, 1, 1, 2, 3)", 3, 0, s.copy(0, 1, 1, 2, 3));
            dueRow(s, 0, lane, 0, 1, 2, 3, 4);
            dueRow(s, 1, lane, 10, 11, 1, 2, 3);
            due(s, "on by one within a SHEET", 4, 0, s.copy(0, 0, 0, 1, 4));
            dueRow(s, 0, lane, 0, 0, 1, 2, 3);
            due(s, "back by two within a SHEET", 3, 0, s.copy(0, 2, 0, 0, 3));
            dueRow(s, 0, lane, 1, 2, 3, 2, 3);
            due(s, "no cells behind the last", 0, 0, s.copy(0, 5, 1, 5, 0));
        }
    }

    private void promise34CopyOfWholeRows() {
        ShakyScreens s = new ShakyScreens();
        s.sheet(0, SHORTS, 60);
        s.sheet(3, SHORTS, 60);
        for (int i = 0; i < 60; i++) {
            s.put(0, i, 500 + i);
        }
        due(s, "60 cells", 60, 0, s.copy(0, 0, 3, 0, 60));
        due(s, "60 cells onto themselves", 60, 0, s.copy(0, 0, 0, 0, 60));
        for (int i = 0; i < 60; i++) {
            check.due("cell " + i, 500 + i, s.cell(3, i, SHORTS));
            check.due("cell " + i + " stays", 500 + i, s.cell(0, i, SHORTS));
        }
        due(s, "61 cells", -13, 3, s.copy(0, 0, 3, 0, 61));
        due(s, "60 cells from 1 on", -13, 3, s.copy(0, 1, 3, 0, 60));
        due(s, "60 cells to 1 on", -13, 3, s.copy(0, 0, 3, 1, 60));
        due(s, "59 cells from 0 on to 1 on", 59, 0, s.copy(0, 0, 0, 1, 59));
        for (int i = 0; i < 60; i++) {
            check.due("cell " + i + " as they were", 500 + Math.max(0, i - 1), s.cell(0, i, SHORTS));
        }
    }

    /** Each SHEET's own length bounds its own cells. */
    private void promise34CopyOfUnlikeLengths() {
        ShakyScreens s = new ShakyScreens();
        s.sheet(0, INTS, 7);
        s.sheet(1, INTS, 3);
        s.sheet(2, INTS, 0);
        s.put(0, 6, Integer.MIN_VALUE);
        due(s, "to the last cell", 1, 0, s.copy(0, 6, 1, 2, 1));
        check.due("it went", Integer.MIN_VALUE, s.cell(1, 2, INTS));
        due(s, "beyond the other", -13, 3, s.copy(0, 3, 1, 0, 4));
        due(s, "beyond the first", -13, 3, s.copy(1, 0, 0, 0, 4));
        due(s, "behind the other's last", 0, 0, s.copy(0, 0, 1, 3, 0));
        due(s, "beyond that", -13, 3, s.copy(0, 0, 1, 4, 0));
        due(s, "behind the first's last", 0, 0, s.copy(0, 7, 1, 0, 0));
        due(s, "beyond that", -13, 3, s.copy(0, 8, 1, 0, 0));
        due(s, "of no cells", 0, 0, s.copy(2, 0, 0, 0, 0));
        due(s, "to no cells", 0, 0, s.copy(0, 0, 2, 0, 0));
        due(s, "of no cells from 1 on", -13, 3, s.copy(2, 1, 0, 0, 0));
        due(s, "one of no cells", -13, 3, s.copy(2, 0, 0, 0, 1));
        due(s, "one to no cells", -13, 3, s.copy(0, 0, 2, 0, 1));
    }

    private void promise34CopyRefusalsAndFaults() {
        ShakyScreens s = counting(BYTES);
        s.sheet(2, INTS, 5);
        int[][] calls = {
            {4, 0, 3, 0, 1, -1}, {0, 0, 4, 0, 1, -1}, {-1, 0, 0, 0, 1, -1}, {3, 0, 4, 0, 1, -1}, {3, 0, 0, -1, 1, -11},
            {2, 0, 3, -1, 1, -11}, {3, 0, 3, 0, -1, -11}, {0, 0, 2, -1, -1, -12}, {0, -1, 1, 0, 0, -13},
            {0, 0, 1, -1, 0, -13}, {0, 0, 1, 0, -1, -13}, {0, 6, 1, 0, 0, -13}, {0, 0, 1, 6, 0, -13},
            {0, 5, 1, 0, 1, -13}, {0, 0, 1, 3, 3, -13}, {0, 3, 1, 0, 3, -13}, {0, 0, 1, 0, 6, -13},
            {0, 1, 1, 1, Integer.MAX_VALUE, -13}, {0, Integer.MAX_VALUE, 1, 0, 1, -13},
            {0, 0, 1, Integer.MAX_VALUE, Integer.MAX_VALUE, -13}};
        for (int[] call : calls) {
            due(s, "copy" + java.util.Arrays.toString(call), call[5], call[5] < -10 ? -10 - call[5] : 0,
                    s.copy(call[0], call[1], call[2], call[3], call[4]));
        }
        dueRow(s, 0, BYTES, 0, 1, 2, 3, 4);
        dueRow(s, 1, BYTES, 10, 11, 12, 13, 14);
    }

    private static int traceOf(int trace, int... bodies) {
        int now = trace;
        for (int body : bodies) {
            now = 31 * now + body;
        }
        return now;
    }

    private void promise35Tell() {
        ShakyScreens s = Texts.screens("p5;d7;x9", 0);
        check.due("tell(0)", 5, s.tell(0));
        check.due("TRACE of a PART", traceOf(0, 1), s.trace());
        s = Texts.screens("p5;d7;x9", 0);
        check.due("tell(1)", 1007, s.tell(1));
        check.due("TRACE of a DEED", traceOf(0, 2, 1), s.trace());
        s = Texts.screens("p5;d7;x9", 0);
        check.due("tell(2)", 1018, s.tell(2));
        check.due("TRACE of a DANGER", traceOf(0, 3, 2, 1, 1), s.trace());
        s.wish(2, 999);
        check.due("tell(2) as WISHES are now", 2998, s.tell(2));
        int trace = s.trace();
        check.due("tell(3)", -1, s.tell(3));
        check.due("tell(-1)", -1, s.tell(-1));
        check.due("TRACE stays", trace, s.trace());
    }

    private void promise36Speak() {
        ShakyScreens s = Texts.screens("p5;d7;x9;p1", 0);
        check.due("speak(0)", 0, s.speak(0));
        check.due("speak(1)", 1, s.speak(1));
        check.due("speak(3)", 3, s.speak(3));
        check.due("TRACE of the lent body", traceOf(0, 4, 4, 4), s.trace());
        check.due("speak(2)", 99, s.speak(2));
        check.due("TRACE of DANGER's own", traceOf(0, 4, 4, 4, 5), s.trace());
        check.due("speak(4)", -1, s.speak(4));
        check.due("speak(-1)", -1, s.speak(-1));
        check.due("TRACE stays", traceOf(0, 4, 4, 4, 5), s.trace());
    }

    private void promise37As() {
        ShakyScreens s = Texts.screens("p5;d7;x9", 0);
        for (int x = 0; x < 3; x++) {
            for (int kind = 0; kind < 3; kind++) {
                boolean is = kind <= x;
                due(s, "as(" + x + ", " + kind + ")", is ? 1 : -12, is ? 0 : 2, s.as(x, kind));
            }
            due(s, "as(" + x + ", 3)", -2, 0, s.as(x, 3));
            due(s, "as(" + x + ", -1)", -2, 0, s.as(x, -1));
        }
        due(s, "as(3, 3)", -1, 0, s.as(3, 3));
        due(s, "as(-1, 0)", -1, 0, s.as(-1, 0));
    }

    private void promise38Trace() {
        ShakyScreens s = Texts.screens("x9", 0);
        check.due("trace() at first", 0, s.trace());
        int trace = 0;
        for (int k = 0; k < 5; k++) {
            s.tell(0);
            trace = traceOf(trace, 3, 2, 1, 1);
            check.due("trace() wraps", trace, s.trace());
        }
        Texts.take(s, "p1");
        check.due("a TEXT leaves it", trace, s.trace());
    }

    private void promise39Fault() {
        ShakyScreens s = Texts.screens("p1", 1);
        check.due("fault() at first", 0, new ShakyScreens().fault());
        s.put(0, 0, 0);
        check.due("fault()", 1, s.fault());
        check.due("fault() leaves it", 1, s.fault());
        s.lose(0);
        s.tell(0);
        s.speak(9);
        s.lay(0, 1);
        s.many(9);
        s.press(0, 5, 5, 0);
        check.due("calls that name no FAULTS leave it", 1, s.fault());
        s.text(9, 0, 0, 0);
        check.due("a refused text() clears it", 0, s.fault());
        s.put(0, 0, 0);
        s.put(9, 0, 0);
        check.due("a refused put() clears it", 0, s.fault());
        s.put(0, 0, 0);
        s.cell(9, 0, 0);
        check.due("a refused cell() clears it", 0, s.fault());
        s.put(0, 0, 0);
        s.copy(9, 0, 0, 0, 0);
        check.due("a refused copy() clears it", 0, s.fault());
        s.put(0, 0, 0);
        s.as(9, 0);
        check.due("a refused as() clears it", 0, s.fault());
        s.put(0, 0, 0);
        s.sheet(0, 9, 0);
        check.due("a refused sheet() clears it", 0, s.fault());
        s.put(0, 0, 0);
        s.sheet(0, 0, 3);
        check.due("a call that comes to none clears it", 0, s.fault());
        s.put(0, 3, 0);
        check.due("a faulty TEXT is no FAULT", -100, s.text(0, 0, 0, 3));
        check.due("fault() behind it", 0, s.fault());
    }

    /** Behind each FAULT each call that names FAULTS, made well: it tells 0 then. */
    private void promise39FaultOfEachCall() {
        String[] faults = {"put 2 0 0", "as 0 1", "put 0 9 0", "sheet 0 0 -1"};
        String[] wellMade = {"text 3 2 0 2", "sheet 1 0 1", "put 0 0 0", "cell 0 0 0", "copy 0 0 0 0 1", "as 0 0"};
        String[] others = {"part 0 0", "wish 0 1", "follows 0 0", "follow 0 0 0", "person", "can 0 0 0", "best 0 1 -1",
            "lay 0 1", "offer 0 0", "back 0", "at 0 0", "price 0", "ways 1 2 -1", "kept 0 1 1", "rule 0 5", "press 0 5 5 0",
            "confirm 0 0", "asked 0", "undo 0", "counted 0 0", "span 0 1", "worse 0 0", "trial 0 0 0", "odds 0 0",
            "leave 0 1 0 0", "see 0 0 0 0", "told 0 0 1 0", "lose 2", "lose 9", "tell 0", "speak 0", "trace", "fault",
            "many 0"};
        ShakyScreens s = Texts.screens("p1", 1);
        s.sheet(0, BYTES, 9);
        for (int k = 0; k < faults.length; k++) {
            for (String call : wellMade) {
                check.due(faults[k], -11 - k, Calls.answer(s, faults[k]));
                check.due("fault() behind " + faults[k], k + 1, s.fault());
                check.holds(call + " is made", Calls.answer(s, call) >= 0);
                check.due("fault() behind " + call, 0, s.fault());
            }
            Calls.answer(s, faults[k]);
            for (String call : others) {
                Calls.answer(s, call);
                check.due("fault() behind " + call, k + 1, s.fault());
            }
        }
    }

    private void promise40ManyWhenFull() {
        ShakyScreens s = Texts.screens("p1;p1;p1;p1;p1;p1;p1;p1;p1;p1", 4);
        check.due("ten PARTS", 10, s.many(0));
        check.due("four PERSONS", 4, s.many(1));
        s.person();
        Texts.take(s, "p1;p1;p1;p1;p1;p1;p1;p1;p1;p1;p1");
        check.due("ten PARTS still", 10, s.many(0));
        check.due("four PERSONS still", 4, s.many(1));
        Texts.take(s, "p1");
        check.due("one PART", 1, s.many(0));
    }

    private void promise40Many() {
        ShakyScreens s = Texts.screens("p5;d7;x9", 2);
        check.due("many(0)", 3, s.many(0));
        check.due("many(1)", 2, s.many(1));
        check.due("many(2)", -2, s.many(2));
        check.due("many(-1)", -2, s.many(-1));
    }
}

/** Promises 17 to 24: presses, what is ASKED, TAKEN, TAKEN BACK, and what is learnt from them. */
public final class PressesTest {
    private final Check check = new Check();

    public static void main(String[] args) {
        PressesTest test = new PressesTest();
        test.promise17Rule();
        test.promise18Errors();
        test.promise18Weights();
        test.promise18Sureness();
        test.promise18SurenessToTheEdge();
        test.promise18Danger();
        test.promise18PressesForNone();
        test.promise18Refusals();
        test.promise19Confirm();
        test.promise20Asked();
        test.promise21Undo();
        test.promise22Counted();
        test.promise23Span();
        test.promise24Worse();
        test.check.end();
    }

    private void promise17Rule() {
        ShakyScreens s = new ShakyScreens();
        int[][] calls = {
            {0, 10, 5}, {0, 0, 10}, {0, 11, -2}, {0, -1, -2}, {0, 5, 0}, {1, 99, 10}, {1, 0, 99}, {1, 100, -2},
            {1, -1, -2}, {1, 10, 0}, {2, 0, -2}, {-1, 0, -2}};
        for (int[] call : calls) {
            check.due("rule" + java.util.Arrays.toString(call), call[2], s.rule(call[0], call[1]));
        }
    }

    /** One PART at PLACE 5, whose middle is at 15, 15. */
    private static ShakyScreens onePart(String text) {
        ShakyScreens s = Texts.screens(text, 2);
        s.can(0, 1, 1 << 5);
        s.lay(0, 1);
        return s;
    }

    private void promise18Errors() {
        int[][] presses = {
            {15, 15, 0}, {19, 11, 0}, {20, 15, 1}, {15, 10, 1}, {24, 6, 1}, {25, 15, 2}, {15, 5, 2}, {29, 1, 2},
            {1, 29, 2}, {30, 15, -9}, {0, 15, -9}, {15, 0, -9}};
        for (int[] press : presses) {
            ShakyScreens s = onePart("d0");
            String call = "press at " + press[0] + ", " + press[1];
            check.due(call, press[2] == -9 ? -9 : 0, s.press(0, press[0], press[1], 0));
            for (int error = 0; error < 3; error++) {
                check.due(call + ", COUNTED " + error, error == press[2] ? 1 : 0, s.counted(0, error));
            }
        }
    }

    /** Two PARTS beside each other: their middles are at 5, 5 and at 15, 5. */
    private static ShakyScreens twoParts(String text) {
        ShakyScreens s = Texts.screens(text, 2);
        s.lay(0, 3);
        return s;
    }

    private void promise18Weights() {
        ShakyScreens s = twoParts("p3;p3");
        check.due("of like weights the least number", 0, s.press(0, 10, 5, 0));
        s = twoParts("p3;p4");
        check.due("of the greater WISHES", 1, s.press(0, 10, 5, 0));
        s = twoParts("p3;p3");
        s.press(0, 0, 5, 0);
        check.due("ERROR 1 is COUNTED", 1, s.counted(0, 1));
        check.due("by what is COUNTED: ERROR 1 of 0, 2 of 1", 0, s.press(0, 8, 0, 1));
        s = twoParts("p0;p0");
        s.rule(0, 0);
        s.press(0, 0, 5, 0);
        s.press(0, 0, 5, 0);
        check.due("ERROR 1 is COUNTED twice", 2, s.counted(0, 1));
        check.due("ERROR 1 of 0 is heavier than 0 of 1", 0, s.press(0, 10, 5, 1));
        check.due("ERROR 0 of 1 against 2 of 0", 0, s.press(0, 15, 5, 2));
        check.due("then ERROR 2 is COUNTED", 1, s.counted(0, 2));
        s = twoParts("p0;p9");
        s.wish(0, 999);
        check.due("by WISHES as they are now", 0, s.press(0, 15, 5, 0));
    }

    private void promise18Sureness() {
        ShakyScreens s = twoParts("p3;p3");
        s.rule(0, 5);
        check.due("half of all is sure enough for 5", 0, s.press(0, 10, 5, 0));
        s.rule(0, 6);
        check.due("not for 6", 100, s.press(0, 10, 5, 0));
        check.due("though it is ASKED", 100, s.press(0, 10, 5, 0));
        check.due("nothing more is COUNTED", 1, s.counted(0, 1));
        s.rule(0, 10);
        check.due("alone it is sure", 0, s.press(0, 0, 5, 0));
        s.wish(0, 999);
        check.due("10 asks all but the lone one", 100, s.press(0, 10, 5, 0));
        s.rule(0, 9);
        check.due("9 takes it", 0, s.press(0, 10, 5, 0));
    }

    /** Weights of 1 and 10: 10 times 10 is no less than 9 times 11. */
    private void promise18SurenessToTheEdge() {
        ShakyScreens s = twoParts("p0;p9");
        s.rule(0, 9);
        check.due("WISHES and 1", 1, s.press(0, 10, 5, 0));
        s = twoParts("p0;p0");
        for (int k = 0; k < 9; k++) {
            s.press(0, 0, 5, 0);
        }
        check.due("ERROR 1 is COUNTED nine times", 9, s.counted(0, 1));
        s.rule(0, 9);
        check.due("COUNTED and 1", 0, s.press(0, 3, 0, 0));
    }

    private void promise18Danger() {
        ShakyScreens s = Texts.screens("x5;p5;x5", 2);
        s.can(0, 1, 1 | 1 << 3 | 1 << 8);
        s.lay(0, 7);
        s.lay(1, 1);
        s.rule(1, 4);
        check.due("DANGER is ASKED", 100, s.press(0, 5, 5, 0));
        check.due("and taken within PAUSE", 0, s.press(0, 5, 5, 4));
        check.due("and ASKED anew", 100, s.press(0, 5, 5, 4));
        check.due("too late", 100, s.press(0, 5, 5, 9));
        check.due("since the later one", 0, s.press(0, 5, 5, 13));
        s.press(0, 5, 5, 20);
        check.due("another DANGER", 102, s.press(0, 5, 25, 20));
        check.due("it is not the first that is ASKED", 100, s.press(0, 5, 5, 20));
        check.due("ASKED of another PERSON", 100, s.press(1, 5, 5, 20));
        check.due("another PART is taken", 1, s.press(0, 35, 5, 21));
        check.due("then nothing is ASKED", -9, s.asked(0));
        check.due("so it is ASKED anew", 100, s.press(0, 5, 5, 21));
        s.rule(1, 0);
        check.due("no PAUSE: at the same TICK", 0, s.press(0, 5, 5, 21));
        s.press(0, 5, 5, 22);
        check.due("no PAUSE: a TICK later", 100, s.press(0, 5, 5, 23));
    }

    private void promise18PressesForNone() {
        ShakyScreens s = onePart("x1");
        s.press(0, 15, 15, 3);
        check.due("for none", -9, s.press(0, 39, 29, 5));
        check.due("ASKED stays", 0, s.asked(0));
        check.due("its TICK counts", -3, s.press(0, 15, 15, 4));
        check.due("it is taken since the first", 0, s.press(0, 15, 15, 13));
        check.due("no LAYING", -9, s.press(1, 15, 15, 7));
        check.due("its TICK counts, too", -3, s.press(1, 15, 15, 6));
        check.due("TICKS are each PERSON's", -9, s.press(1, 15, 15, 7));
    }

    private void promise18Refusals() {
        ShakyScreens s = onePart("p1");
        s.press(0, 39, 29, 10);
        int[][] calls = {
            {2, 40, 0, 10, -1}, {-1, 0, 0, 10, -1}, {0, 40, 0, 10, -2}, {0, -1, 0, 10, -2}, {0, 0, 30, 10, -2},
            {0, 0, -1, 10, -2}, {0, 0, 0, 10000, -2}, {0, 0, 0, -1, -2}, {0, 15, 15, 9, -3}, {0, 15, 15, 10, 0},
            {0, 15, 15, 9999, 0}, {0, 15, 15, 9998, -3}};
        for (int[] call : calls) {
            check.due("press" + java.util.Arrays.toString(call), call[4], s.press(call[0], call[1], call[2], call[3]));
        }
        check.due("COUNTED", 2, s.counted(0, 0));
    }

    private void promise19Confirm() {
        ShakyScreens s = onePart("x1");
        check.due("nothing is ASKED", -3, s.confirm(0, 0));
        s.press(0, 25, 15, 5);
        check.due("below the latest press", -3, s.confirm(0, 4));
        check.due("confirm(0, 10000)", -2, s.confirm(0, 10000));
        check.due("confirm(0, -1)", -2, s.confirm(0, -1));
        check.due("confirm(2, -1)", -1, s.confirm(2, -1));
        check.due("still ASKED", 0, s.asked(0));
        check.due("long after PAUSE", 0, s.confirm(0, 500));
        check.due("its ERROR is COUNTED", 1, s.counted(0, 2));
        check.due("its ERROR is the last one", 2, s.undo(0));
        check.due("nothing is ASKED then", -9, s.asked(0));
        check.due("not twice", -3, s.confirm(0, 500));
        check.due("its TICK counts", -3, s.press(0, 15, 15, 499));
        s.press(0, 15, 15, 500);
        s.press(0, 39, 29, 600);
        check.due("below a press for none", -3, s.confirm(0, 599));
        check.due("at that TICK", 0, s.confirm(0, 600));
        check.due("the ERROR as it was pressed", 1, s.counted(0, 0));
    }

    private void promise20Asked() {
        ShakyScreens s = Texts.screens("p1;x1", 1);
        check.due("asked(0) at first", -9, s.asked(0));
        check.due("asked(1)", -1, s.asked(1));
        check.due("asked(-1)", -1, s.asked(-1));
        s.lay(0, 2);
        s.press(0, 5, 5, 0);
        check.due("asked(0)", 1, s.asked(0));
        s.press(0, 5, 5, 0);
        check.due("asked(0) when it is taken", -9, s.asked(0));
    }

    private void promise21Undo() {
        ShakyScreens s = onePart("d1");
        check.due("undo(0) at first", -3, s.undo(0));
        check.due("undo(2)", -1, s.undo(2));
        for (int k = 0; k < 14; k++) {
            s.press(0, k == 13 ? 25 : k < 3 ? 20 : 15, 15, k);
        }
        check.due("the latest one", 2, s.undo(0));
        check.due("COUNTED no more", 0, s.counted(0, 2));
        for (int k = 0; k < 10; k++) {
            check.due("one of ERROR 0", 0, s.undo(0));
        }
        check.due("twelve are kept", 1, s.undo(0));
        check.due("no more are", -3, s.undo(0));
        check.due("those beyond stay COUNTED", 2, s.counted(0, 1));
        s.press(0, 25, 15, 20);
        check.due("a new one", 2, s.undo(0));
        int[] at = {15, 20, 25};
        for (int k = 0; k < 15; k++) {
            s.press(0, at[k % 3], 15, 30);
        }
        for (int k = 14; k > 2; k--) {
            check.due("the LAST ones in their order", k % 3, s.undo(0));
        }
        s = onePart("x1");
        s.press(0, 15, 15, 0);
        s.press(0, 15, 15, 0);
        s.press(0, 15, 15, 1);
        s.undo(0);
        check.due("what is ASKED stays", 0, s.asked(0));
    }

    private void promise22Counted() {
        ShakyScreens s = onePart("d1");
        s.press(0, 15, 15, 0);
        s.press(0, 20, 15, 0);
        s.press(0, 20, 15, 0);
        check.due("counted(0, 0)", 1, s.counted(0, 0));
        check.due("counted(0, 1)", 2, s.counted(0, 1));
        check.due("counted(0, 2)", 0, s.counted(0, 2));
        check.due("counted(1, 0)", 0, s.counted(1, 0));
        check.due("counted(0, 3)", -2, s.counted(0, 3));
        check.due("counted(0, -1)", -2, s.counted(0, -1));
        check.due("counted(2, 3)", -1, s.counted(2, 3));
    }

    private void promise23Span() {
        ShakyScreens s = onePart("d1");
        check.due("none is COUNTED", -9, s.span(0, 5));
        check.due("span(0, 0)", -2, s.span(0, 0));
        check.due("span(0, 11)", -2, s.span(0, 11));
        check.due("span(2, 0)", -1, s.span(2, 0));
        s.press(0, 25, 15, 0);
        check.due("one is COUNTED", 2, s.span(0, 1));
        s.undo(0);
        int[] at = {15, 15, 15, 15, 15, 20, 20, 20, 25, 25};
        for (int x : at) {
            s.press(0, x, 15, 0);
        }
        int[] spans = {0, 0, 0, 0, 0, 1, 1, 1, 2, 2};
        for (int tenths = 1; tenths <= 10; tenths++) {
            check.due("span(0, " + tenths + ")", spans[tenths - 1], s.span(0, tenths));
        }
        s.undo(0);
        check.due("9 times 10 against 8 times 10", 2, s.span(0, 9));
        check.due("8 times 9 against 8 times 10", 1, s.span(0, 8));
        check.due("another PERSON's", -9, s.span(1, 10));
    }

    private void promise24Worse() {
        ShakyScreens s = onePart("d1");
        check.due("no pair", Long.MIN_VALUE, s.worse(0, 0));
        s.press(0, 15, 15, 0);
        s.press(0, 15, 15, 0);
        check.due("no unlike pair", Long.MIN_VALUE, s.worse(0, 1));
        s.press(0, 20, 15, 0);
        check.due("upper of 2 of 2", 1, s.worse(0, 0));
        check.due("lower of 2 of 2", 1, s.worse(0, 1));
        s.press(0, 25, 15, 0);
        s.press(0, 20, 15, 0);
        check.due("upper of 7 of 8", 7, s.worse(0, 0));
        check.due("lower of 7 of 8", 8, s.worse(0, 1));
        s.press(0, 15, 15, 0);
        check.due("upper of 7 of 11", 7, s.worse(0, 0));
        check.due("lower of 7 of 11", 11, s.worse(0, 1));
        s.press(0, 15, 15, 0);
        check.due("upper of 7 of 14", 1, s.worse(0, 0));
        check.due("lower of 7 of 14", 2, s.worse(0, 1));
        for (int k = 0; k < 11; k++) {
            s.press(0, 25, 15, 0);
        }
        check.due("of the LAST twelve alone", 1, s.worse(0, 1));
        s.undo(0);
        s.undo(0);
        check.due("worse(0, 2)", Long.MIN_VALUE, s.worse(0, 2));
        check.due("worse(0, -1)", Long.MIN_VALUE, s.worse(0, -1));
        check.due("worse(2, 0)", Long.MIN_VALUE, s.worse(2, 0));
        s = onePart("d1");
        s.press(0, 25, 15, 0);
        s.press(0, 20, 15, 0);
        s.press(0, 15, 15, 0);
        check.due("it gets better: upper", 0, s.worse(0, 0));
        check.due("it gets better: lower", 1, s.worse(0, 1));
    }
}

/** Promises 17 to 24: presses, what is ASKED, TAKEN, TAKEN BACK, and what is learnt from them. */
public final class PressesTest {
    private final Check check = new Check();

    public static void main(String[] args) {
        PressesTest test = new PressesTest();
        test.promise17Rule();
        test.promise18Errors();
        test.promise18ErrorsOfTheWholeGlass();
        test.promise18MiddlesOfAllPlaces();
        test.promise18Weights();
        test.promise18Sureness();
        test.promise18SurenessToTheEdge();
        test.promise18EverySureness();
        test.promise18GreatestWeights();
        test.promise18Danger();
        test.promise18DangerThatIsUnsure();
        test.promise18PauseToTheEdge();
        test.promise18AskedAndTaken();
        test.promise18PressesForNone();
        test.promise18Refusals();
        test.promise18TicksToTheEdge();
        test.promise19Confirm();
        test.promise19ErrorAsPressed();
        test.promise19NothingIsAsked();
        test.promise20Asked();
        test.promise21Undo();
        test.promise21NoMoreThanTwelve();
        test.promise22Counted();
        test.promise23Span();
        test.promise23SpanOfAllCounted();
        test.promise24Worse();
        test.promise24WorseOfTwelve();
        test.fiveHundredAndTwelveCalls();
        test.check.end();
    }

    private void promise17Rule() {
        ShakyScreens s = new ShakyScreens();
        int[][] calls = {
            {0, 10, 5}, {0, 0, 10}, {0, 11, -2}, {0, -1, -2}, {0, 5, 0}, {1, 99, 10}, {1, 0, 99}, {1, 100, -2},
            {1, -1, -2}, {1, 10, 0}, {2, 0, -2}, {-1, 0, -2}};
        for (int[] call : calls) {
            check.due("rule" + java.util.Arrays.toString(call), call[2], s.rule(call[0], call[1]));
        }
    }

    /** One PART at PLACE 5, whose middle is at 15, 15. */
    private static ShakyScreens onePart(String text) {
        ShakyScreens s = Texts.screens(text, 2);
        s.can(0, 1, 1 << 5);
        s.lay(0, 1);
        return s;
    }

    private void promise18Errors() {
        int[][] presses = {
            {15, 15, 0}, {19, 11, 0}, {20, 15, 1}, {15, 10, 1}, {24, 6, 1}, {25, 15, 2}, {15, 5, 2}, {29, 1, 2},
            {1, 29, 2}, {30, 15, -9}, {0, 15, -9}, {15, 0, -9}};
        for (int[] press : presses) {
            ShakyScreens s = onePart("d0");
            String call = "press at " + press[0] + ", " + press[1];
            check.due(call, press[2] == -9 ? -9 : 0, s.press(0, press[0], press[1], 0));
            for (int error = 0; error < 3; error++) {
                check.due(call + ", COUNTED " + error, error == press[2] ? 1 : 0, s.counted(0, error));
            }
        }
    }

    /** PLACE 5's middle is at 15, 15: each press of the glass, a row of them on an object of its own. */
    private void promise18ErrorsOfTheWholeGlass() {
        for (int y = 0; y < 30; y++) {
            ShakyScreens s = onePart("d0");
            for (int x = 0; x < 40; x++) {
                int error = Math.max(Math.abs(x - 15), Math.abs(y - 15)) / 5;
                String call = "press at " + x + ", " + y;
                check.due(call, error > 2 ? -9 : 0, s.press(0, x, y, 0));
                check.due(call + ", its ERROR", error > 2 ? -3 : error, s.undo(0));
            }
        }
    }

    private void promise18MiddlesOfAllPlaces() {
        for (int place = 0; place < 12; place++) {
            ShakyScreens s = Texts.screens("d0;d0", 1);
            s.can(0, 1, 1 << place);
            s.lay(0, 2);
            int x = 10 * (place % 4) + 5;
            int y = 10 * (place / 4) + 5;
            int[][] presses = {{x, y, 0}, {x - 5, y, 1}, {x + 4, y, 0}, {x, y - 5, 1}, {x, y + 4, 0}, {x - 5, y - 5, 1}};
            for (int[] press : presses) {
                check.due("PLACE " + place, 1, s.press(0, press[0], press[1], 0));
                check.due("PLACE " + place + ", its ERROR", press[2], s.undo(0));
            }
        }
    }

    /** Two PARTS beside each other: their middles are at 5, 5 and at 15, 5. */
    private static ShakyScreens twoParts(String text) {
        ShakyScreens s = Texts.screens(text, 2);
        s.lay(0, 3);
        return s;
    }

    private void promise18Weights() {
        ShakyScreens s = twoParts("p3;p3");
        check.due("of like weights the least number", 0, s.press(0, 10, 5, 0));
        s = twoParts("p3;p4");
        check.due("of the greater WISHES", 1, s.press(0, 10, 5, 0));
        s = twoParts("p3;p3");
        s.press(0, 0, 5, 0);
        check.due("ERROR 1 is COUNTED", 1, s.counted(0, 1));
        check.due("by what is COUNTED: ERROR 1 of 0, 2 of 1", 0, s.press(0, 8, 0, 1));
        s = twoParts("p0;p0");
        s.rule(0, 0);
        s.press(0, 0, 5, 0);
        s.press(0, 0, 5, 0);
        check.due("ERROR 1 is COUNTED twice", 2, s.counted(0, 1));
        check.due("ERROR 1 of 0 is heavier than 0 of 1", 0, s.press(0, 10, 5, 1));
        check.due("ERROR 0 of 1 against 2 of 0", 0, s.press(0, 15, 5, 2));
        check.due("then ERROR 2 is COUNTED", 1, s.counted(0, 2));
        s = twoParts("p0;p9");
        s.wish(0, 999);
        check.due("by WISHES as they are now", 0, s.press(0, 15, 5, 0));
    }

    private void promise18Sureness() {
        ShakyScreens s = twoParts("p3;p3");
        s.rule(0, 5);
        check.due("half of all is sure enough for 5", 0, s.press(0, 10, 5, 0));
        s.rule(0, 6);
        check.due("not for 6", 100, s.press(0, 10, 5, 0));
        check.due("though it is ASKED", 100, s.press(0, 10, 5, 0));
        check.due("nothing more is COUNTED", 1, s.counted(0, 1));
        s.rule(0, 10);
        check.due("alone it is sure", 0, s.press(0, 0, 5, 0));
        s.wish(0, 999);
        check.due("10 asks all but the lone one", 100, s.press(0, 10, 5, 0));
        s.rule(0, 9);
        check.due("9 takes it", 0, s.press(0, 10, 5, 0));
    }

    /** Weights of 1 and 10: 10 times 10 is no less than 9 times 11. */
    private void promise18SurenessToTheEdge() {
        ShakyScreens s = twoParts("p0;p9");
        s.rule(0, 9);
        check.due("WISHES and 1", 1, s.press(0, 10, 5, 0));
        s = twoParts("p0;p0");
        for (int k = 0; k < 9; k++) {
            s.press(0, 0, 5, 0);
        }
        check.due("ERROR 1 is COUNTED nine times", 9, s.counted(0, 1));
        s.rule(0, 9);
        check.due("COUNTED and 1", 0, s.press(0, 3, 0, 0));
    }

    /** Weights of 1 to 12 against one of 5, both of ERROR 1. */
    private void promise18EverySureness() {
        for (int sureness = 0; sureness <= 10; sureness++) {
            for (int weight = 1; weight <= 12; weight++) {
                ShakyScreens s = twoParts("p4;p" + (weight - 1));
                s.rule(0, sureness);
                int meant = weight > 5 ? 1 : 0;
                boolean asked = 10 * Math.max(5, weight) < sureness * (5 + weight);
                String call = "weight " + weight + " against 5 by SURENESS " + sureness;
                check.due(call, asked ? 100 + meant : meant, s.press(0, 10, 5, 0));
                check.due(call + ": ASKED", asked ? meant : -9, s.asked(0));
                check.due(call + ": COUNTED", asked ? 0 : 1, s.counted(0, 1));
            }
        }
    }

    /** Nearly 400 presses of ERROR 1 are COUNTED, of the greatest WISHES: 10 asks, as another one weighs 1. */
    private void promise18GreatestWeights() {
        ShakyScreens s = twoParts("p999;p0");
        for (int k = 0; k < 390; k++) {
            s.press(0, 0, 5, k);
        }
        check.due("COUNTED", 390, s.counted(0, 1));
        s.rule(0, 10);
        check.due("weights of 391000 and 1", 100, s.press(0, 3, 0, 400));
        s.rule(0, 9);
        check.due("sure by 9", 0, s.press(0, 3, 0, 400));
        s.wish(1, 999);
        s.wish(0, 0);
        check.due("weights of 392 and 1000", 101, s.press(0, 3, 0, 401));
        s.rule(0, 7);
        check.due("sure by 7", 1, s.press(0, 3, 0, 401));
    }

    /** Below SURENESS it is ASKED, though what is ASKED is it; then a sure press within PAUSE takes it. */
    private void promise18DangerThatIsUnsure() {
        ShakyScreens s = twoParts("x3;p3");
        s.rule(0, 6);
        check.due("unsure", 100, s.press(0, 10, 5, 0));
        check.due("unsure once more", 100, s.press(0, 10, 5, 1));
        check.due("sure", 0, s.press(0, 0, 5, 2));
        check.due("ASKED anew", 100, s.press(0, 0, 5, 2));
        check.due("unsure: the TICK is the later one", 100, s.press(0, 10, 5, 12));
        check.due("sure, 10 since", 0, s.press(0, 0, 5, 22));
        check.due("unsure", 100, s.press(0, 10, 5, 30));
        check.due("sure, 11 since", 100, s.press(0, 0, 5, 41));
        s.wish(1, 99);
        s.rule(0, 10);
        check.due("the PART beside it is ASKED", 101, s.press(0, 10, 5, 42));
        check.due("so what is ASKED is not it", 100, s.press(0, 0, 5, 42));
    }

    private void promise18PauseToTheEdge() {
        int[] pauses = {0, 1, 10, 98, 99};
        for (int pause : pauses) {
            ShakyScreens s = onePart("x1");
            s.rule(1, pause);
            s.press(0, 15, 15, 50);
            check.due("just within PAUSE " + pause, 0, s.press(0, 15, 15, 50 + pause));
            s.press(0, 15, 15, 1000);
            check.due("just beyond PAUSE " + pause, 100, s.press(0, 15, 15, 1001 + pause));
        }
        ShakyScreens s = onePart("x1");
        s.press(0, 15, 15, 0);
        check.due("PAUSE is 10 at first", 0, s.press(0, 15, 15, 10));
        s.press(0, 15, 15, 20);
        check.due("not 11", 100, s.press(0, 15, 15, 31));
        s.rule(1, 4);
        check.due("PAUSE as it is now", 100, s.press(0, 15, 15, 36));
        s.rule(1, 99);
        check.due("a greater one since", 0, s.press(0, 15, 15, 135));
    }

    private void promise18AskedAndTaken() {
        ShakyScreens s = Texts.screens("x5;x5;d5", 2);
        s.can(0, 1, 1 | 1 << 3 | 1 << 8);
        s.lay(0, 7);
        s.lay(1, 7);
        check.due("one DANGER", 100, s.press(0, 5, 5, 0));
        check.due("another DANGER is ASKED instead", 101, s.press(0, 35, 5, 0));
        check.due("asked(0)", 1, s.asked(0));
        check.due("nothing is ASKED of another PERSON", -9, s.asked(1));
        check.due("none is COUNTED", -9, s.span(0, 10));
        check.due("a DEED is TAKEN", 2, s.press(0, 5, 25, 0));
        check.due("it clears what is ASKED", -9, s.asked(0));
        check.due("it alone is COUNTED", 1, s.counted(0, 0));
        s.press(0, 5, 5, 0);
        s.lay(0, 7);
        check.due("a new LAYING clears it: ASKED anew", 100, s.press(0, 5, 5, 0));
        s.back(0);
        check.due("so does the old one", 100, s.press(0, 5, 5, 0));
        check.due("then it is TAKEN", 0, s.press(0, 5, 5, 0));
    }

    private void promise18Danger() {
        ShakyScreens s = Texts.screens("x5;p5;x5", 2);
        s.can(0, 1, 1 | 1 << 3 | 1 << 8);
        s.lay(0, 7);
        s.lay(1, 1);
        s.rule(1, 4);
        check.due("DANGER is ASKED", 100, s.press(0, 5, 5, 0));
        check.due("and taken within PAUSE", 0, s.press(0, 5, 5, 4));
        check.due("and ASKED anew", 100, s.press(0, 5, 5, 4));
        check.due("too late", 100, s.press(0, 5, 5, 9));
        check.due("since the later one", 0, s.press(0, 5, 5, 13));
        s.press(0, 5, 5, 20);
        check.due("another DANGER", 102, s.press(0, 5, 25, 20));
        check.due("it is not the first that is ASKED", 100, s.press(0, 5, 5, 20));
        check.due("ASKED of another PERSON", 100, s.press(1, 5, 5, 20));
        check.due("another PART is taken", 1, s.press(0, 35, 5, 21));
        check.due("then nothing is ASKED", -9, s.asked(0));
        check.due("so it is ASKED anew", 100, s.press(0, 5, 5, 21));
        s.rule(1, 0);
        check.due("no PAUSE: at the same TICK", 0, s.press(0, 5, 5, 21));
        s.press(0, 5, 5, 22);
        check.due("no PAUSE: a TICK later", 100, s.press(0, 5, 5, 23));
    }

    private void promise18PressesForNone() {
        ShakyScreens s = onePart("x1");
        s.press(0, 15, 15, 3);
        check.due("for none", -9, s.press(0, 39, 29, 5));
        check.due("ASKED stays", 0, s.asked(0));
        check.due("its TICK counts", -3, s.press(0, 15, 15, 4));
        check.due("it is taken since the first", 0, s.press(0, 15, 15, 13));
        check.due("no LAYING", -9, s.press(1, 15, 15, 7));
        check.due("its TICK counts, too", -3, s.press(1, 15, 15, 6));
        check.due("TICKS are each PERSON's", -9, s.press(1, 15, 15, 7));
    }

    private void promise18Refusals() {
        ShakyScreens s = onePart("p1");
        s.press(0, 39, 29, 10);
        int[][] calls = {
            {2, 40, 0, 10, -1}, {-1, 0, 0, 10, -1}, {0, 40, 0, 10, -2}, {0, -1, 0, 10, -2}, {0, 0, 30, 10, -2},
            {0, 0, -1, 10, -2}, {0, 0, 0, 10000, -2}, {0, 0, 0, -1, -2}, {0, 15, 15, 9, -3}, {0, 15, 15, 10, 0},
            {0, 15, 15, 9999, 0}, {0, 15, 15, 9998, -3}};
        for (int[] call : calls) {
            check.due("press" + java.util.Arrays.toString(call), call[4], s.press(call[0], call[1], call[2], call[3]));
        }
        check.due("COUNTED", 2, s.counted(0, 0));
    }

    private void promise18TicksToTheEdge() {
        ShakyScreens s = onePart("x1");
        check.due("TICK 0", 100, s.press(0, 15, 15, 0));
        check.due("TICK 0 again", 0, s.press(0, 15, 15, 0));
        check.due("TICK 9999", 100, s.press(0, 15, 15, 9999));
        check.due("TICK 9998 then", -3, s.press(0, 15, 15, 9998));
        check.due("TICK 0 then", -3, s.press(0, 15, 15, 0));
        check.due("TICK 10000", -2, s.press(0, 15, 15, 10000));
        check.due("confirmed at 9998", -3, s.confirm(0, 9998));
        check.due("confirmed at 9999", 0, s.confirm(0, 9999));
        check.due("TICK 9999 then", 100, s.press(0, 15, 15, 9999));
        check.due("another PERSON at 0", -9, s.press(1, 15, 15, 0));
    }

    /** ASKED twice: by the ERROR of the later press. */
    private void promise19ErrorAsPressed() {
        ShakyScreens s = onePart("x1");
        s.rule(1, 0);
        s.press(0, 15, 15, 0);
        s.press(0, 20, 15, 1);
        check.due("confirmed", 0, s.confirm(0, 1));
        check.due("by the later ERROR", 1, s.undo(0));
        s.press(0, 25, 15, 2);
        s.press(0, 39, 29, 3);
        check.due("confirmed behind a press for none", 0, s.confirm(0, 3));
        check.due("by its own ERROR", 2, s.undo(0));
        s = twoParts("p3;x3");
        s.rule(0, 10);
        s.press(0, 10, 5, 0);
        check.due("an unsure one is confirmed, which is no DANGER", 0, s.confirm(0, 0));
        check.due("and COUNTED", 1, s.counted(0, 1));
        check.due("TICKS of 0 are not below 0", 100, s.press(0, 10, 5, 0));
    }

    private void promise19NothingIsAsked() {
        ShakyScreens s = Texts.screens("x1;p1", 1);
        check.due("no LAYING", -3, s.confirm(0, 5));
        s.lay(0, 1);
        s.press(0, 5, 5, 0);
        s.lay(0, 1);
        check.due("another LAYING", -3, s.confirm(0, 5));
        s.press(0, 5, 5, 0);
        s.back(0);
        check.due("the old LAYING", -3, s.confirm(0, 5));
        s.press(0, 5, 5, 0);
        s.offer(0, 0);
        check.due("an offer taken", -3, s.confirm(0, 5));
        s.press(0, 5, 5, 0);
        s.press(0, 5, 5, 0);
        check.due("TAKEN already", -3, s.confirm(0, 5));
        s.press(0, 5, 5, 0);
        Texts.take(s, "x1;p1");
        check.due("another TEXT", -3, s.confirm(0, 5));
        check.due("refused ones have no TICK", -9, s.press(0, 5, 5, 0));
        check.due("COUNTED once in all", 1, s.counted(0, 0));
    }

    private void promise19Confirm() {
        ShakyScreens s = onePart("x1");
        check.due("nothing is ASKED", -3, s.confirm(0, 0));
        s.press(0, 25, 15, 5);
        check.due("below the latest press", -3, s.confirm(0, 4));
        check.due("confirm(0, 10000)", -2, s.confirm(0, 10000));
        check.due("confirm(0, -1)", -2, s.confirm(0, -1));
        check.due("confirm(2, -1)", -1, s.confirm(2, -1));
        check.due("still ASKED", 0, s.asked(0));
        check.due("long after PAUSE", 0, s.confirm(0, 500));
        check.due("its ERROR is COUNTED", 1, s.counted(0, 2));
        check.due("its ERROR is the last one", 2, s.undo(0));
        check.due("nothing is ASKED then", -9, s.asked(0));
        check.due("not twice", -3, s.confirm(0, 500));
        check.due("its TICK counts", -3, s.press(0, 15, 15, 499));
        s.press(0, 15, 15, 500);
        s.press(0, 39, 29, 600);
        check.due("below a press for none", -3, s.confirm(0, 599));
        check.due("at that TICK", 0, s.confirm(0, 600));
        check.due("the ERROR as it was pressed", 1, s.counted(0, 0));
    }

    private void promise20Asked() {
        ShakyScreens s = Texts.screens("p1;x1", 1);
        check.due("asked(0) at first", -9, s.asked(0));
        check.due("asked(1)", -1, s.asked(1));
        check.due("asked(-1)", -1, s.asked(-1));
        s.lay(0, 2);
        s.press(0, 5, 5, 0);
        check.due("asked(0)", 1, s.asked(0));
        s.press(0, 5, 5, 0);
        check.due("asked(0) when it is taken", -9, s.asked(0));
    }

    private void promise21Undo() {
        ShakyScreens s = onePart("d1");
        check.due("undo(0) at first", -3, s.undo(0));
        check.due("undo(2)", -1, s.undo(2));
        for (int k = 0; k < 14; k++) {
            s.press(0, k == 13 ? 25 : k < 3 ? 20 : 15, 15, k);
        }
        check.due("the latest one", 2, s.undo(0));
        check.due("COUNTED no more", 0, s.counted(0, 2));
        for (int k = 0; k < 10; k++) {
            check.due("one of ERROR 0", 0, s.undo(0));
        }
        check.due("twelve are kept", 1, s.undo(0));
        check.due("no more are", -3, s.undo(0));
        check.due("those beyond stay COUNTED", 2, s.counted(0, 1));
        s.press(0, 25, 15, 20);
        check.due("a new one", 2, s.undo(0));
        int[] at = {15, 20, 25};
        for (int k = 0; k < 15; k++) {
            s.press(0, at[k % 3], 15, 30);
        }
        for (int k = 14; k > 2; k--) {
            check.due("the LAST ones in their order", k % 3, s.undo(0));
        }
        s = onePart("x1");
        s.press(0, 15, 15, 0);
        s.press(0, 15, 15, 0);
        s.press(0, 15, 15, 1);
        s.undo(0);
        check.due("what is ASKED stays", 0, s.asked(0));
    }

    /** Eleven, twelve, thirteen TAKEN, a CONFIRMED one among them: so many can be TAKEN BACK. */
    private void promise21NoMoreThanTwelve() {
        for (int taken = 11; taken <= 13; taken++) {
            ShakyScreens s = onePart("x1");
            for (int k = 0; k < taken; k++) {
                s.press(0, k == 0 ? 25 : 15, 15, k);
                check.due("confirmed", 0, s.confirm(0, k));
            }
            for (int k = Math.min(taken, 12); k > 0; k--) {
                check.due("of " + taken + " that number " + k, k == 1 && taken < 13 ? 2 : 0, s.undo(0));
            }
            check.due("no more of " + taken, -3, s.undo(0));
            check.due("COUNTED still", taken == 13 ? 1 : 0, s.counted(0, 2));
            check.due("COUNTED no more", 0, s.counted(0, 0));
        }
    }

    private void promise22Counted() {
        ShakyScreens s = onePart("d1");
        s.press(0, 15, 15, 0);
        s.press(0, 20, 15, 0);
        s.press(0, 20, 15, 0);
        check.due("counted(0, 0)", 1, s.counted(0, 0));
        check.due("counted(0, 1)", 2, s.counted(0, 1));
        check.due("counted(0, 2)", 0, s.counted(0, 2));
        check.due("counted(1, 0)", 0, s.counted(1, 0));
        check.due("counted(0, 3)", -2, s.counted(0, 3));
        check.due("counted(0, -1)", -2, s.counted(0, -1));
        check.due("counted(2, 3)", -1, s.counted(2, 3));
    }

    private void promise23Span() {
        ShakyScreens s = onePart("d1");
        check.due("none is COUNTED", -9, s.span(0, 5));
        check.due("span(0, 0)", -2, s.span(0, 0));
        check.due("span(0, 11)", -2, s.span(0, 11));
        check.due("span(2, 0)", -1, s.span(2, 0));
        s.press(0, 25, 15, 0);
        check.due("one is COUNTED", 2, s.span(0, 1));
        s.undo(0);
        int[] at = {15, 15, 15, 15, 15, 20, 20, 20, 25, 25};
        for (int x : at) {
            s.press(0, x, 15, 0);
        }
        int[] spans = {0, 0, 0, 0, 0, 1, 1, 1, 2, 2};
        for (int tenths = 1; tenths <= 10; tenths++) {
            check.due("span(0, " + tenths + ")", spans[tenths - 1], s.span(0, tenths));
        }
        s.undo(0);
        check.due("9 times 10 against 8 times 10", 2, s.span(0, 9));
        check.due("8 times 9 against 8 times 10", 1, s.span(0, 8));
        check.due("another PERSON's", -9, s.span(1, 10));
    }

    /** Those that are no more among the LAST are COUNTED still. */
    private void promise23SpanOfAllCounted() {
        ShakyScreens s = onePart("d1");
        for (int k = 0; k < 16; k++) {
            s.press(0, k < 4 ? 25 : 15, 15, 0);
        }
        check.due("12 of 16 are no less than 7 tenths", 0, s.span(0, 7));
        check.due("but less than 8", 2, s.span(0, 8));
        for (int k = 0; k < 12; k++) {
            s.undo(0);
        }
        check.due("four are left", 2, s.span(0, 1));
        check.due("nothing can be TAKEN BACK", -3, s.undo(0));
    }

    private void dueWorse(ShakyScreens s, String what, long upper, long lower) {
        check.due("upper of " + what, upper, s.worse(0, 0));
        check.due("lower of " + what, lower, s.worse(0, 1));
    }

    private void promise24WorseOfTwelve() {
        ShakyScreens s = onePart("d1");
        s.press(0, 25, 15, 0);
        check.due("one is no pair", Long.MIN_VALUE, s.worse(0, 1));
        for (int k = 1; k < 12; k++) {
            s.press(0, 15, 15, 0);
        }
        dueWorse(s, "the first of twelve is the greatest", 0, 1);
        s.press(0, 15, 15, 0);
        check.due("the first is gone: twelve like ones", Long.MIN_VALUE, s.worse(0, 0));
        s.press(0, 20, 15, 0);
        dueWorse(s, "the last of twelve is the greatest", 1, 1);
        s.press(0, 15, 15, 0);
        dueWorse(s, "10 of 11", 10, 11);
        s.undo(0);
        s.undo(0);
        check.due("TAKEN BACK: ten like ones", Long.MIN_VALUE, s.worse(0, 0));
        int[] at = {15, 20, 25};
        for (int k = 0; k < 12; k++) {
            s.press(0, at[k % 3], 15, 0);
        }
        dueWorse(s, "30 of 48", 5, 8);
    }

    /** The 512th call of an object is answered as the first: 511 others are made ahead of it. */
    private void fiveHundredAndTwelveCalls() {
        ShakyScreens s = new ShakyScreens();
        s.person();
        s.sheet(0, 0, 2);
        s.put(0, 0, 'd');
        s.put(0, 1, '1');
        s.text(0, 0, 0, 2);
        s.lay(0, 1);
        for (int k = 0; k < 505; k++) {
            s.press(0, 5, 5, k);
        }
        check.due("call 512: counted(0, 0)", 505, s.counted(0, 0));
        s = new ShakyScreens();
        for (int k = 0; k < 510; k++) {
            s.sheet(k % 4, k % 3, 60);
        }
        check.due("call 511: sheet()", 1, s.sheet(0, 2, 60));
        check.due("call 512: put()", 1, s.put(0, 59, 1));
    }

    private void promise24Worse() {
        ShakyScreens s = onePart("d1");
        check.due("no pair", Long.MIN_VALUE, s.worse(0, 0));
        s.press(0, 15, 15, 0);
        s.press(0, 15, 15, 0);
        check.due("no unlike pair", Long.MIN_VALUE, s.worse(0, 1));
        s.press(0, 20, 15, 0);
        check.due("upper of 2 of 2", 1, s.worse(0, 0));
        check.due("lower of 2 of 2", 1, s.worse(0, 1));
        s.press(0, 25, 15, 0);
        s.press(0, 20, 15, 0);
        check.due("upper of 7 of 8", 7, s.worse(0, 0));
        check.due("lower of 7 of 8", 8, s.worse(0, 1));
        s.press(0, 15, 15, 0);
        check.due("upper of 7 of 11", 7, s.worse(0, 0));
        check.due("lower of 7 of 11", 11, s.worse(0, 1));
        s.press(0, 15, 15, 0);
        check.due("upper of 7 of 14", 1, s.worse(0, 0));
        check.due("lower of 7 of 14", 2, s.worse(0, 1));
        for (int k = 0; k < 11; k++) {
            s.press(0, 25, 15, 0);
        }
        check.due("of the LAST twelve alone", 1, s.worse(0, 1));
        s.undo(0);
        s.undo(0);
        check.due("worse(0, 2)", Long.MIN_VALUE, s.worse(0, 2));
        check.due("worse(0, -1)", Long.MIN_VALUE, s.worse(0, -1));
        check.due("worse(2, 0)", Long.MIN_VALUE, s.worse(2, 0));
        s = onePart("d1");
        s.press(0, 25, 15, 0);
        s.press(0, 20, 15, 0);
        s.press(0, 15, 15, 0);
        check.due("it gets better: upper", 0, s.worse(0, 0));
        check.due("it gets better: lower", 1, s.worse(0, 1));
    }
}

/** Promises 25 to 29: TRIALS, ODDS, LEAVE. */
public final class TrialsTest {
    private final Check check = new Check();

    public static void main(String[] args) {
        TrialsTest test = new TrialsTest();
        test.promise25Trial();
        test.promise26Odds();
        test.promise26OddsOfLikeOnes();
        test.promise26OddsOfTen();
        test.promise27Leave();
        test.promise28See();
        test.promise29Told();
        test.promises27To29OfFourPersons();
        test.promises28And29TicksToTheEdge();
        test.check.end();
    }

    private static ShakyScreens persons(int many) {
        return Texts.screens("p1;p1", many);
    }

    private void promise25Trial() {
        ShakyScreens s = persons(2);
        check.due("trial(2, 100, 0)", -1, s.trial(2, 100, 0));
        check.due("trial(0, 100, 0)", -2, s.trial(0, 100, 0));
        check.due("trial(0, -1, 0)", -2, s.trial(0, -1, 0));
        check.due("trial(0, 0, 100)", -2, s.trial(0, 0, 100));
        check.due("trial(0, 0, -1)", -2, s.trial(0, 0, -1));
        for (int k = 1; k <= 10; k++) {
            check.due("TRIAL " + k, k, s.trial(0, k % 2 * 99, 99));
        }
        check.due("an eleventh TRIAL", -4, s.trial(0, 0, 0));
        check.due("OUTSIDE ahead of FULL", -2, s.trial(0, 100, 0));
        check.due("another PERSON's", 1, s.trial(1, 0, 0));
    }

    private void dueOdds(ShakyScreens s, int p, long upper, long lower) {
        check.due("upper of ODDS", upper, s.odds(p, 0));
        check.due("lower of ODDS", lower, s.odds(p, 1));
    }

    private void promise26Odds() {
        ShakyScreens s = persons(3);
        check.due("no TRIALS", Long.MIN_VALUE, s.odds(0, 0));
        check.due("odds(3, 0)", Long.MIN_VALUE, s.odds(3, 0));
        s.trial(1, 5, 4);
        dueOdds(s, 1, 1, 2);
        s = persons(3);
        s.trial(0, 9, 4);
        check.due("odds(0, 2)", Long.MIN_VALUE, s.odds(0, 2));
        check.due("odds(0, -1)", Long.MIN_VALUE, s.odds(0, -1));
        dueOdds(s, 0, 1, 2);
        s.trial(0, 4, 4);
        dueOdds(s, 0, 1, 2);
        s.trial(0, 8, 6);
        dueOdds(s, 0, 1, 4);
        s.trial(0, 6, 8);
        dueOdds(s, 0, 3, 8);
        for (int k = 0; k < 10; k++) {
            s.trial(1, 99, 0);
            s.trial(2, 0, 99);
        }
        dueOdds(s, 1, 1, 1024);
        dueOdds(s, 2, 1, 1);
    }

    private void promise27Leave() {
        ShakyScreens s = persons(3);
        int[][] calls = {
            {0, 1, 0, 10, -9}, {0, 1, 0, 9999, 10}, {0, 1, 0, -1, 9999}, {0, 1, 0, 0, -9}, {0, 1, 1, 5, -9},
            {0, 2, 0, 6, -9}, {1, 0, 0, 7, -9}, {0, 1, 0, 3, 0}, {0, 1, 1, 3, 5}, {0, 2, 0, 3, 6}, {1, 0, 0, 3, 7},
            {0, 0, 0, 1, -2}, {0, 1, 2, 1, -2}, {0, 1, -1, 1, -2}, {0, 1, 0, 10000, -2}, {0, 1, 0, -2, -2},
            {0, 3, 9, 1, -1}, {3, 0, 0, 1, -1}, {3, 3, 0, 1, -1}, {-1, 0, 0, 1, -1}, {0, 1, 0, 3, 3}};
        for (int[] call : calls) {
            check.due("leave" + java.util.Arrays.toString(call), call[4], s.leave(call[0], call[1], call[2], call[3]));
        }
    }

    private void promise28See() {
        ShakyScreens s = persons(2);
        s.lay(0, 3);
        check.due("no LEAVE at first", -3, s.see(1, 0, 0, 0));
        check.due("its own", 1, s.see(0, 0, 1, 9999));
        check.due("its own, of none", -9, s.see(1, 1, 1, 0));
        s.leave(0, 1, 1, 100);
        check.due("LEAVE for SPANS alone", -3, s.see(1, 0, 0, 0));
        s.leave(0, 1, 0, 100);
        check.due("till 100", 0, s.see(1, 0, 0, 100));
        check.due("a PLACE of none", -9, s.see(1, 0, 11, 100));
        check.due("no more at 101", -3, s.see(1, 0, 0, 101));
        check.due("not the other way", -3, s.see(0, 1, 0, 0));
        check.due("see(1, 0, 12, -1)", -1, s.see(1, 0, 12, -1));
        check.due("see(1, 0, -1, 0)", -1, s.see(1, 0, -1, 0));
        check.due("see(2, 0, 0, 0)", -1, s.see(2, 0, 0, 0));
        check.due("see(0, 2, 0, 0)", -1, s.see(0, 2, 0, 0));
        check.due("see(0, 1, 0, -1)", -2, s.see(0, 1, 0, -1));
        check.due("see(1, 0, 0, 10000)", -2, s.see(1, 0, 0, 10000));
        s.leave(0, 1, 0, -1);
        check.due("no more", -3, s.see(1, 0, 0, 0));
        s.leave(0, 1, 0, 0);
        check.due("at TICK 0 alone", 1, s.see(1, 0, 1, 0));
        check.due("not at TICK 1", -3, s.see(1, 0, 1, 1));
    }

    private void promise29Told() {
        ShakyScreens s = persons(2);
        s.lay(0, 1);
        check.due("no LEAVE at first", -3, s.told(1, 0, 5, 0));
        check.due("its own, of none", -9, s.told(0, 0, 5, 0));
        s.leave(0, 1, 0, 100);
        check.due("LEAVE for the LAYING alone", -3, s.told(1, 0, 5, 0));
        s.leave(0, 1, 1, 100);
        check.due("none is COUNTED", -9, s.told(1, 0, 5, 0));
        s.press(0, 0, 5, 0);
        s.press(0, 5, 5, 0);
        check.due("told for 1", 0, s.told(1, 0, 1, 100));
        check.due("told for 10", 1, s.told(1, 0, 10, 100));
        check.due("told for 5", 0, s.told(1, 0, 5, 100));
        check.due("told for 6", 1, s.told(1, 0, 6, 100));
        check.due("no more at 101", -3, s.told(1, 0, 6, 101));
        check.due("its own at any TICK", 1, s.told(0, 0, 6, 9999));
        check.due("not the other way", -3, s.told(0, 1, 5, 0));
        check.due("told(1, 0, 0, 0)", -2, s.told(1, 0, 0, 0));
        check.due("told(0, 1, 11, 0)", -2, s.told(0, 1, 11, 0));
        check.due("told(1, 0, 5, -1)", -2, s.told(1, 0, 5, -1));
        check.due("told(1, 0, 5, 10000)", -2, s.told(1, 0, 5, 10000));
        check.due("told(2, 0, 0, 0)", -1, s.told(2, 0, 0, 0));
        check.due("told(0, 2, 0, 0)", -1, s.told(0, 2, 0, 0));
    }

    private void promise26OddsOfLikeOnes() {
        ShakyScreens s = persons(4);
        s.trial(0, 0, 0);
        dueOdds(s, 0, 1, 1);
        s.trial(0, 99, 99);
        dueOdds(s, 0, 1, 1);
        s.trial(1, 0, 1);
        dueOdds(s, 1, 1, 1);
        s.trial(1, 1, 0);
        dueOdds(s, 1, 3, 4);
        s.trial(2, 99, 0);
        dueOdds(s, 2, 1, 2);
        s.trial(2, 0, 99);
        dueOdds(s, 2, 3, 4);
        check.due("no TRIALS of another PERSON", Long.MIN_VALUE, s.odds(3, 1));
    }

    /** Gains of 1, 2, 4 .. 64 and three of 0: 8 of 1024 ways; five of 1 and five of -1: 638 of them. */
    private void promise26OddsOfTen() {
        ShakyScreens s = persons(2);
        for (int k = 0; k < 7; k++) {
            s.trial(0, 1 << k, 0);
        }
        dueOdds(s, 0, 1, 128);
        for (int k = 0; k < 3; k++) {
            s.trial(0, 50 + k, 50 + k);
        }
        dueOdds(s, 0, 1, 128);
        check.due("an eleventh TRIAL", -4, s.trial(0, 0, 99));
        dueOdds(s, 0, 1, 128);
        for (int k = 0; k < 10; k++) {
            s.trial(1, k % 2, 1 - k % 2);
        }
        dueOdds(s, 1, 319, 512);
    }

    /** All pairs of four PERSONS, both whats: each LEAVE is its own. */
    private void promises27To29OfFourPersons() {
        ShakyScreens s = persons(4);
        for (int p = 0; p < 4; p++) {
            s.lay(p, 1);
            for (int q = 0; q < 4; q++) {
                for (int what = 0; what < 2 && q != p; what++) {
                    check.due("no LEAVE at first", -9, s.leave(p, q, what, 100 * p + 10 * q + what));
                }
            }
        }
        for (int p = 0; p < 4; p++) {
            for (int q = 0; q < 4; q++) {
                int till = q == p ? 9999 : 100 * p + 10 * q;
                check.due(q + " sees " + p, 0, s.see(q, p, 0, till));
                check.due(q + " is told of " + p, -9, s.told(q, p, 1, q == p ? till : till + 1));
                for (int what = 0; what < 2 && q != p; what++) {
                    check.due(q + " sees " + p + " no more", -3, s.see(q, p, 0, till + 1));
                    check.due(q + " is told of " + p + " no more", -3, s.told(q, p, 1, till + 2));
                    check.due("till when it was", till + what, s.leave(p, q, what, -1));
                    check.due("then there was none", -9, s.leave(p, q, what, till + what));
                }
            }
        }
    }

    private void promises28And29TicksToTheEdge() {
        ShakyScreens s = persons(2);
        s.lay(0, 1);
        s.press(0, 5, 5, 9999);
        s.leave(0, 1, 0, 9999);
        s.leave(0, 1, 1, 9999);
        check.due("seen at 9999", 0, s.see(1, 0, 0, 9999));
        check.due("seen at 0", 0, s.see(1, 0, 0, 0));
        check.due("told at 9999", 0, s.told(1, 0, 10, 9999));
        check.due("told at 0", 0, s.told(1, 0, 1, 0));
        check.due("seen at 10000", -2, s.see(1, 0, 0, 10000));
        s.leave(0, 1, 0, 0);
        s.leave(0, 1, 1, 0);
        check.due("seen at 0 alone", 0, s.see(1, 0, 0, 0));
        check.due("not at 1", -3, s.see(1, 0, 0, 1));
        check.due("told at 0 alone", 0, s.told(1, 0, 1, 0));
        check.due("not told at 1", -3, s.told(1, 0, 1, 1));
        check.due("another LAYING", 0, s.lay(0, 2));
        check.due("seen as it is now", 1, s.see(1, 0, 0, 0));
        check.due("its last PLACE", -9, s.see(1, 0, 11, 0));
    }
}

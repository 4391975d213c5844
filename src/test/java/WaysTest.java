/** Promises 15 and 16: WAYS by menus, whom they keep from a DEED. */
public final class WaysTest {
    private final Check check = new Check();

    public static void main(String[] args) {
        WaysTest test = new WaysTest();
        test.promise15OnePart();
        test.promise15Steps();
        test.promise15LikeWeights();
        test.promise15MenusAmongLikeWeights();
        test.promise15EveryNumberOfPartsAndEntries();
        test.promise15DeepestTree();
        test.promise15SetsOfTenParts();
        test.promise15Refusals();
        test.promise16Kept();
        test.promise16KeptByEveryHold();
        test.promise16StepsToTheEdge();
        test.check.end();
    }

    private void promise15OnePart() {
        ShakyScreens s = Texts.screens("p7;p3", 0);
        for (int h = 2; h <= 9; h++) {
            check.due("COST of one PART", 7, s.ways(1, h, -1));
            check.due("STEPS of one PART", 1, s.ways(1, h, 0));
            check.due("not in the set", -9, s.ways(1, h, 1));
            check.due("COST of two PARTS", 10, s.ways(3, h, -1));
        }
    }

    private void promise15Steps() {
        ShakyScreens s = Texts.screens("p8;p4;p2;p1;p1", 0);
        int[] byTwo = {1, 2, 3, 4, 4};
        int[] byThree = {1, 1, 2, 2, 2};
        int[] byFour = {1, 1, 1, 2, 2};
        for (int x = 0; x < 5; x++) {
            check.due("STEPS by 2 of " + x, byTwo[x], s.ways(31, 2, x));
            check.due("STEPS by 3 of " + x, byThree[x], s.ways(31, 3, x));
            check.due("STEPS by 4 of " + x, byFour[x], s.ways(31, 4, x));
            check.due("STEPS by 5 of " + x, 1, s.ways(31, 5, x));
        }
        check.due("COST by 2", 8 + 8 + 6 + 4 + 4, s.ways(31, 2, -1));
        check.due("COST by 3", 8 + 4 + 4 + 2 + 2, s.ways(31, 3, -1));
        check.due("COST by 4", 8 + 4 + 2 + 2 + 2, s.ways(31, 4, -1));
        s.wish(0, 0);
        check.due("COST as WISHES are now", 4 + 4 + 3 + 4, s.ways(31, 2, -1));
    }

    /** A menu stands behind all PARTS: of like weights the PARTS are taken ahead of it. */
    private void promise15LikeWeights() {
        ShakyScreens s = Texts.screens("p2;p1;p1;p2", 0);
        check.due("STEPS of 0", 2, s.ways(15, 2, 0));
        check.due("STEPS of 1", 2, s.ways(15, 2, 1));
        check.due("STEPS of 3", 2, s.ways(15, 2, 3));
        Texts.take(s, "p0;p0;p0");
        check.due("of like ones the first: 0", 2, s.ways(7, 2, 0));
        check.due("of like ones the first: 1", 2, s.ways(7, 2, 1));
        check.due("of like ones the first: 2", 1, s.ways(7, 2, 2));
    }

    /** A menu of weight 2 came behind the PARTS of weight 2: they go first, and it lies less deep. */
    private void promise15MenusAmongLikeWeights() {
        ShakyScreens s = Texts.screens("p2;p1;p1;p2;p2", 0);
        int[] steps = {2, 3, 3, 2, 2};
        for (int x = 0; x < 5; x++) {
            check.due("STEPS by 2 of " + x, steps[x], s.ways(31, 2, x));
        }
        check.due("COST", 2 * 2 + 3 + 3 + 2 * 2 + 2 * 2, s.ways(31, 2, -1));
        Texts.take(s, "p0;p0;p0;p0;p0");
        int[] stepsOfNothing = {3, 3, 2, 2, 2};
        for (int x = 0; x < 5; x++) {
            check.due("STEPS of no WISHES, of " + x, stepsOfNothing[x], s.ways(31, 2, x));
        }
        check.due("COST of no WISHES", 0, s.ways(31, 2, -1));
    }

    /**
     * Of like WISHES the STEPS of n PARTS together are the least that menus of h can have: all lie as deep
     * as the greatest full tree of no more than n, and those beyond it push others down.
     */
    private void promise15EveryNumberOfPartsAndEntries() {
        ShakyScreens s = Texts.screens("p7;p7;p7;p7;p7;p7;p7;p7;p7;p7", 0);
        for (int n = 2; n <= 10; n++) {
            for (int h = 2; h <= 9; h++) {
                int depth = 0;
                int full = 1;
                while (full * h <= n) {
                    full *= h;
                    depth++;
                }
                int beyond = n - full;
                int steps = n * depth + beyond + (beyond + h - 2) / (h - 1);
                check.due("COST of " + n + " PARTS by " + h, 7 * steps, s.ways((1 << n) - 1, h, -1));
            }
        }
    }

    private void promise15DeepestTree() {
        ShakyScreens s = Texts.screens("p1;p1;p2;p4;p8;p16;p32;p64;p128;p256", 0);
        int[] steps = {9, 9, 8, 7, 6, 5, 4, 3, 2, 1};
        int[] wishes = {1, 1, 2, 4, 8, 16, 32, 64, 128, 256};
        int cost = 0;
        for (int x = 0; x < 10; x++) {
            check.due("STEPS of ten, of " + x, steps[x], s.ways(1023, 2, x));
            cost += steps[x] * wishes[x];
        }
        check.due("COST of ten", cost, s.ways(1023, 2, -1));
        for (int x = 0; x < 10; x++) {
            s.wish(x, 999);
        }
        check.due("the greatest WISHES: six lie 3 deep, four 4 deep", 999 * (6 * 3 + 4 * 4), s.ways(1023, 2, -1));
    }

    private void promise15SetsOfTenParts() {
        ShakyScreens s = Texts.screens("p1;p2;p3;p4;p5;p6;p7;p8;p9;p10", 0);
        check.due("the tenth alone", 10, s.ways(512, 2, -1));
        check.due("the tenth alone: STEPS", 1, s.ways(512, 9, 9));
        check.due("the first and the tenth", 11, s.ways(513, 2, -1));
        check.due("an eleventh", -2, s.ways(1024, 2, -1));
        check.due("bit 31 and the first", -2, s.ways(1 << 31 | 1, 2, -1));
        check.due("ten by 9: the two least lie 2 deep", 55 + 1 + 2, s.ways(1023, 9, -1));
        check.due("nine by 9: one menu", 54, s.ways(1022, 9, -1));
        check.due("ten by 8: the three least", 55 + 1 + 2 + 3, s.ways(1023, 8, -1));
    }

    private void promise15Refusals() {
        ShakyScreens s = Texts.screens("p1;p1", 0);
        int[][] calls = {
            {0, 2, -1, -2}, {4, 2, -1, -2}, {-1, 2, -1, -2}, {1, 1, -1, -2}, {1, 10, -1, -2}, {0, 2, 9, -2},
            {1, 10, 9, -2}, {1, 2, 2, -1}, {1, 2, -2, -1}, {1, 2, 0, 1}, {3, 9, 1, 1}, {Integer.MIN_VALUE, 2, 0, -2}};
        for (int[] call : calls) {
            check.due("ways" + java.util.Arrays.toString(call), call[3], s.ways(call[0], call[1], call[2]));
        }
        check.due("ways() without PARTS", -2, new ShakyScreens().ways(1, 2, -1));
    }

    private void promise16Kept() {
        ShakyScreens s = Texts.screens("d8;x4;p2;d1;x1", 1);
        s.can(0, 2, 2);
        check.due("more than 1", 2 | 8 | 16, s.kept(0, 31, 1));
        check.due("more than 2", 8 | 16, s.kept(0, 31, 2));
        check.due("more than 4", 0, s.kept(0, 31, 4));
        s.can(0, 2, 1);
        check.due("menus have 2 entries at least", 8 | 16, s.kept(0, 31, 3));
        s.can(0, 2, 4);
        check.due("menus of 4", 8 | 16, s.kept(0, 31, 1));
        Texts.take(s, "d1;d1;d1;d1;d1;d1;d1;d1;d1;d1");
        s.can(0, 2, 10);
        check.due("menus have 9 entries at most", 3, s.kept(0, 1023, 1));
        check.due("of the set alone", 0, s.kept(0, 511, 1));
        int[][] calls = {
            {1, 1, 1, -1}, {1, 0, 0, -1}, {0, 0, 1, -2}, {0, 1024, 1, -2}, {0, -1, 1, -2}, {0, 1, 0, -2},
            {0, 1, 10, -2}, {0, 1, 9, 0}};
        for (int[] call : calls) {
            check.due("kept" + java.util.Arrays.toString(call), call[3], s.kept(call[0], call[1], call[2]));
        }
    }

    /** Ten DEEDS of like WISHES: which lie deeper than in one menu, by menus of HOLD. */
    private void promise16KeptByEveryHold() {
        ShakyScreens s = Texts.screens("d5;d5;d5;d5;d5;d5;d5;d5;d5;d5", 1);
        int[] kept = {1023, 1023, 1023, 255, 127, 31, 15, 7, 3, 3};
        for (int hold = 1; hold <= 10; hold++) {
            s.can(0, 2, hold);
            check.due("HOLD " + hold, kept[hold - 1], s.kept(0, 1023, 1));
        }
    }

    /** The deepest tree that there is: nobody is kept by more than 9 STEPS. */
    private void promise16StepsToTheEdge() {
        ShakyScreens s = Texts.screens("x1;d1;p2;d4;x8;p16;d32;x64;d128;d256", 1);
        s.can(0, 2, 2);
        int[] steps = {9, 9, 8, 7, 6, 5, 4, 3, 2, 1};
        for (int told = 1; told <= 9; told++) {
            int want = 0;
            for (int x = 0; x < 10; x++) {
                want |= x != 2 && x != 5 && steps[x] > told ? 1 << x : 0;
            }
            check.due("more than " + told, want, s.kept(0, 1023, told));
        }
        check.due("more than 8: the two least", 3, s.kept(0, 1023, 8));
        check.due("none with more than 9", 0, s.kept(0, 1023, 9));
        check.due("one DEED lies in one menu", 0, s.kept(0, 1, 1));
        check.due("a PART is no DEED", 0, s.kept(0, 4, 1));
    }
}

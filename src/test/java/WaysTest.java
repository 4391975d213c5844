/** Promises 15 and 16: WAYS by menus, whom they keep from a DEED. */
public final class WaysTest {
    private final Check check = new Check();

    public static void main(String[] args) {
        WaysTest test = new WaysTest();
        test.promise15OnePart();
        test.promise15Steps();
        test.promise15LikeWeights();
        test.promise15Refusals();
        test.promise16Kept();
        test.check.end();
    }

    private void promise15OnePart() {
        ShakyScreens s = Texts.screens("p7;p3", 0);
        for (int h = 2; h <= 9; h++) {
            check.due("COST of one PART", 7, s.ways(1, h, -1));
            check.due("STEPS of one PART", 1, s.ways(1, h, 0));
            check.due("not in the set", -9, s.ways(1, h, 1));
            check.due("COST of two PARTS", 10, s.ways(3, h, -1));
        }
    }

    private void promise15Steps() {
        ShakyScreens s = Texts.screens("p8;p4;p2;p1;p1", 0);
        int[] byTwo = {1, 2, 3, 4, 4};
        int[] byThree = {1, 1, 2, 2, 2};
        int[] byFour = {1, 1, 1, 2, 2};
        for (int x = 0; x < 5; x++) {
            check.due("STEPS by 2 of " + x, byTwo[x], s.ways(31, 2, x));
            check.due("STEPS by 3 of " + x, byThree[x], s.ways(31, 3, x));
            check.due("STEPS by 4 of " + x, byFour[x], s.ways(31, 4, x));
            check.due("STEPS by 5 of " + x, 1, s.ways(31, 5, x));
        }
        check.due("COST by 2", 8 + 8 + 6 + 4 + 4, s.ways(31, 2, -1));
        check.due("COST by 3", 8 + 4 + 4 + 2 + 2, s.ways(31, 3, -1));
        check.due("COST by 4", 8 + 4 + 2 + 2 + 2, s.ways(31, 4, -1));
        s.wish(0, 0);
        check.due("COST as WISHES are now", 4 + 4 + 3 + 4, s.ways(31, 2, -1));
    }

    /** A menu stands behind all PARTS: of like weights the PARTS are taken ahead of it. */
    private void promise15LikeWeights() {
        ShakyScreens s = Texts.screens("p2;p1;p1;p2", 0);
        check.due("STEPS of 0", 2, s.ways(15, 2, 0));
        check.due("STEPS of 1", 2, s.ways(15, 2, 1));
        check.due("STEPS of 3", 2, s.ways(15, 2, 3));
        Texts.take(s, "p0;p0;p0");
        check.due("of like ones the first: 0", 2, s.ways(7, 2, 0));
        check.due("of like ones the first: 1", 2, s.ways(7, 2, 1));
        check.due("of like ones the first: 2", 1, s.ways(7, 2, 2));
    }

    private void promise15Refusals() {
        ShakyScreens s = Texts.screens("p1;p1", 0);
        int[][] calls = {
            {0, 2, -1, -2}, {4, 2, -1, -2}, {-1, 2, -1, -2}, {1, 1, -1, -2}, {1, 10, -1, -2}, {0, 2, 9, -2},
            {1, 10, 9, -2}, {1, 2, 2, -1}, {1, 2, -2, -1}, {1, 2, 0, 1}, {3, 9, 1, 1}, {Integer.MIN_VALUE, 2, 0, -2}};
        for (int[] call : calls) {
            check.due("ways" + java.util.Arrays.toString(call), call[3], s.ways(call[0], call[1], call[2]));
        }
        check.due("ways() without PARTS", -2, new ShakyScreens().ways(1, 2, -1));
    }

    private void promise16Kept() {
        ShakyScreens s = Texts.screens("d8;x4;p2;d1;x1", 1);
        s.can(0, 2, 2);
        check.due("more than 1", 2 | 8 | 16, s.kept(0, 31, 1));
        check.due("more than 2", 8 | 16, s.kept(0, 31, 2));
        check.due("more than 4", 0, s.kept(0, 31, 4));
        s.can(0, 2, 1);
        check.due("menus have 2 entries at least", 8 | 16, s.kept(0, 31, 3));
        s.can(0, 2, 4);
        check.due("menus of 4", 8 | 16, s.kept(0, 31, 1));
        Texts.take(s, "d1;d1;d1;d1;d1;d1;d1;d1;d1;d1");
        s.can(0, 2, 10);
        check.due("menus have 9 entries at most", 3, s.kept(0, 1023, 1));
        check.due("of the set alone", 0, s.kept(0, 511, 1));
        int[][] calls = {
            {1, 1, 1, -1}, {1, 0, 0, -1}, {0, 0, 1, -2}, {0, 1024, 1, -2}, {0, -1, 1, -2}, {0, 1, 0, -2},
            {0, 1, 10, -2}, {0, 1, 9, 0}};
        for (int[] call : calls) {
            check.due("kept" + java.util.Arrays.toString(call), call[3], s.kept(call[0], call[1], call[2]));
        }
    }
}

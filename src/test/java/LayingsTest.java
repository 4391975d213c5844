/** Promises 7 to 14: PERSONS, what they can, their LAYINGS. */
public final class LayingsTest {
    private static final int ALL_PLACES = 4095;

    private final Check check = new Check();

    public static void main(String[] args) {
        LayingsTest test = new LayingsTest();
        test.promise7Person();
        test.promise8Can();
        test.promise9BestByPrice();
        test.promise9BestByOrder();
        test.promise9BestWithinWhatOneCan();
        test.promise9Refusals();
        test.promise10Lay();
        test.promise11Offer();
        test.promise12Back();
        test.promise13At();
        test.promise14Price();
        test.check.end();
    }

    private void promise7Person() {
        ShakyScreens s = new ShakyScreens();
        for (int p = 0; p < 4; p++) {
            check.due("person() the " + p, p, s.person());
            check.due("many(1)", p + 1, s.many(1));
        }
        check.due("a fifth person()", -4, s.person());
        check.due("many(1) then", 4, s.many(1));
    }

    private void promise8Can() {
        ShakyScreens s = Texts.screens("p1;p1", 2);
        int[][] calls = {
            {0, 0, 2, 0}, {0, 0, 0, 2}, {0, 0, 3, -2}, {0, 0, -1, -2}, {0, 1, 0, ALL_PLACES}, {0, 1, ALL_PLACES, 0},
            {0, 1, 4096, -2}, {0, 1, -1, -2}, {0, 2, 1, 10}, {0, 2, 10, 1}, {0, 2, 0, -2}, {0, 2, 11, -2},
            {0, 3, 0, -2}, {0, -1, 0, -2}, {2, 3, 99, -1}, {-1, 0, 0, -1}, {1, 0, 1, 0}, {0, 0, 0, 0}, {1, 0, 0, 1}};
        for (int[] call : calls) {
            check.due("can" + java.util.Arrays.toString(call), call[3], s.can(call[0], call[1], call[2]));
        }
        s.lay(0, 3);
        s.can(0, 1, 0);
        s.can(0, 2, 1);
        check.due("LAYINGS stay", 1, s.at(0, 1));
    }

    private void promise9BestByPrice() {
        ShakyScreens s = Texts.screens("p1;p1>0;p1>0;p1>0;p1>0", 1);
        check.due("four around one", 4, s.best(0, 31, -1));
        check.due("the one amid them", 5, s.best(0, 31, 0));
        int[] places = {5, 1, 4, 6, 9};
        for (int x = 0; x < 5; x++) {
            check.due("PLACE of " + x, places[x], s.best(0, 31, x));
        }
        s.follow(0, 4, 7);
        check.due("FOLLOWS of both ways", 11, s.best(0, 31, -1));
        check.due("a pair", 8, s.best(0, 17, -1));
        s.follow(1, 2, 99);
        check.due("1 and 2 close together", 99 + 1 + 2 + 1 + 8, s.best(0, 31, -1));
    }

    private void promise9BestByOrder() {
        ShakyScreens s = Texts.screens("p1;p1;p1>0", 1);
        check.due("PRICE", 1, s.best(0, 7, -1));
        check.due("the first row: PLACE of 0", 0, s.best(0, 7, 0));
        check.due("the first row: PLACE of 1", 1, s.best(0, 7, 1));
        check.due("the first row: PLACE of 2", 4, s.best(0, 7, 2));
        check.due("one PART", 0, s.best(0, 4, -1));
        check.due("one PART's PLACE", 0, s.best(0, 4, 2));
        check.due("not in the set", -9, s.best(0, 4, 1));
        check.due("best() lays nothing", -3, s.price(0));
    }

    private void promise9BestWithinWhatOneCan() {
        ShakyScreens s = Texts.screens("p1;p1>0;p1;p1;p1", 1);
        s.can(0, 0, 1);
        check.due("apart by 2", 2, s.best(0, 3, -1));
        check.due("PLACE 2 is apart", 2, s.best(0, 3, 1));
        check.due("four are apart by 2", 2, s.best(0, 15, -1));
        check.due("no fifth one is", -9, s.best(0, 31, -1));
        s.can(0, 0, 2);
        check.due("apart by 3", 3, s.best(0, 3, -1));
        check.due("three are not apart by 3", -9, s.best(0, 7, -1));
        check.due("none: no PLACE either", -9, s.best(0, 7, 0));
        s.can(0, 0, 0);
        s.can(0, 1, 1 << 3 | 1 << 8 | 1 << 10);
        check.due("within REACH", 2, s.best(0, 3, -1));
        check.due("PLACE of 0 within REACH", 8, s.best(0, 3, 0));
        check.due("PLACE of 1 within REACH", 10, s.best(0, 3, 1));
        check.due("more than REACH has", -9, s.best(0, 15, -1));
        s.can(0, 1, 0);
        check.due("no REACH", -9, s.best(0, 1, -1));
        s.can(0, 1, ALL_PLACES);
        s.can(0, 2, 2);
        check.due("as many as HOLD", 1, s.best(0, 3, -1));
        check.due("more than HOLD", -9, s.best(0, 7, -1));
    }

    private void promise9Refusals() {
        ShakyScreens s = Texts.screens("p1;p1;p1;p1;p1;p1", 1);
        int[][] calls = {
            {1, 1, -1, -1}, {-1, 1, -1, -1}, {0, 0, 6, -1}, {0, 0, -2, -1}, {0, 0, -1, -2}, {0, 64, -1, -2},
            {0, 63, -1, -2}, {0, 65, -1, -2}, {0, -1, -1, -2}, {0, Integer.MIN_VALUE, 0, -2}, {0, 62, -1, 0}};
        for (int[] call : calls) {
            check.due("best" + java.util.Arrays.toString(call), call[3], s.best(call[0], call[1], call[2]));
        }
    }

    private void promise10Lay() {
        ShakyScreens s = Texts.screens("x1;p1>0;p1", 2);
        check.due("lay(0, 3)", 1, s.lay(0, 3));
        check.due("at(0, 1)", 1, s.at(0, 1));
        check.due("another one has none", -9, s.at(1, 1));
        check.due("no old one yet", -3, s.back(0));
        check.due("press", 100, s.press(0, 0, 5, 0));
        s.can(0, 0, 2);
        check.due("lay(0, 7), there is none", -9, s.lay(0, 7));
        check.due("it keeps what it has", 1, s.at(0, 1));
        check.due("ASKED stays", 0, s.asked(0));
        check.due("still no old one", -3, s.back(0));
        check.due("lay(0, 3) further apart", 3, s.lay(0, 3));
        check.due("at(0, 3)", 1, s.at(0, 3));
        check.due("ASKED no more", -9, s.asked(0));
        check.due("the old one is there", 1, s.back(0));
        check.due("at(0, 1) again", 1, s.at(0, 1));
        check.due("lay(2, 0)", -1, s.lay(2, 0));
        check.due("lay(0, 0)", -2, s.lay(0, 0));
        check.due("lay(0, 8)", -2, s.lay(0, 8));
        check.due("lay(0, 8) of no PERSON", -1, s.lay(-1, 8));
    }

    private void promise11Offer() {
        ShakyScreens s = Texts.screens("x1;p1;p1", 1);
        check.due("offer() without a LAYING", -3, s.offer(0, 0));
        s.lay(0, 7);
        s.follow(2, 0, 4);
        check.due("PRICE now", 8, s.price(0));
        check.due("a gain of 5 is not to be had", 0, s.offer(0, 5));
        check.due("it stays", 2, s.at(0, 2));
        s.press(0, 0, 0, 1);
        check.due("a gain of 4 is", 1, s.offer(0, 4));
        check.due("the new PRICE", 4, s.price(0));
        check.due("at(0, 4)", 2, s.at(0, 4));
        check.due("ASKED no more", -9, s.asked(0));
        check.due("a gain of 1 is not to be had", 0, s.offer(0, 1));
        check.due("the old one is had back", 1, s.back(0));
        check.due("the old PRICE", 8, s.price(0));
        check.due("a gain of 0 is", 1, s.offer(0, 0));
        check.due("a gain of 0 of the BEST", 1, s.offer(0, 0));
        s.can(0, 0, 1);
        check.due("the BEST is dearer now", 0, s.offer(0, 0));
        s.can(0, 2, 2);
        check.due("there is none now", -9, s.offer(0, 0));
        check.due("it keeps what it has", 4, s.price(0));
        check.due("offer(0, 10000)", -2, s.offer(0, 10000));
        check.due("offer(0, -1)", -2, s.offer(0, -1));
        check.due("offer(0, 9999)", -9, s.offer(0, 9999));
        check.due("offer(1, -1)", -1, s.offer(1, -1));
    }

    private void promise12Back() {
        ShakyScreens s = Texts.screens("x1;p1", 1);
        check.due("back(1)", -1, s.back(1));
        check.due("back(0) at first", -3, s.back(0));
        s.lay(0, 1);
        check.due("back(0) with one LAYING", -3, s.back(0));
        s.lay(0, 2);
        s.lay(0, 3);
        s.press(0, 5, 5, 0);
        check.due("back(0)", 1, s.back(0));
        check.due("only the one before is had back", 1, s.at(0, 0));
        check.due("ASKED no more", -9, s.asked(0));
        check.due("back(0) once more", 1, s.back(0));
        check.due("what it had", 0, s.at(0, 0));
        check.due("what it had, whole", 1, s.at(0, 1));
    }

    private void promise13At() {
        ShakyScreens s = Texts.screens("p1;p1", 1);
        check.due("at(0, 0) without a LAYING", -9, s.at(0, 0));
        s.can(0, 1, 1 << 11 | 1 << 6);
        s.lay(0, 3);
        check.due("at(0, 6)", 0, s.at(0, 6));
        check.due("at(0, 11)", 1, s.at(0, 11));
        check.due("at(0, 0)", -9, s.at(0, 0));
        check.due("at(0, 12)", -1, s.at(0, 12));
        check.due("at(0, -1)", -1, s.at(0, -1));
        check.due("at(1, 0)", -1, s.at(1, 0));
    }

    private void promise14Price() {
        ShakyScreens s = Texts.screens("p1;p1;p1", 1);
        check.due("price(0) without a LAYING", -3, s.price(0));
        check.due("price(1)", -1, s.price(1));
        s.can(0, 1, 1 << 0 | 1 << 7 | 1 << 8);
        s.lay(0, 7);
        check.due("price(0)", 0, s.price(0));
        s.follow(0, 1, 3);
        s.follow(1, 0, 5);
        check.due("both ways times dx and dy", 8 * 4, s.price(0));
        s.follow(2, 1, 1);
        check.due("all pairs", 8 * 4 + 4, s.price(0));
        s.follow(2, 0, 99);
        check.due("all pairs, dy alone", 8 * 4 + 4 + 99 * 2, s.price(0));
        s.can(0, 1, 1 << 6 | 1 << 7);
        s.lay(0, 3);
        check.due("PARTS of the LAYING alone", 8, s.price(0));
    }
}

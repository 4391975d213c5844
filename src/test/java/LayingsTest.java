/** Promises 7 to 14: PERSONS, what they can, their LAYINGS. */
public final class LayingsTest {
    private static final int ALL_PLACES = 4095;

    private final Check check = new Check();

    public static void main(String[] args) {
        LayingsTest test = new LayingsTest();
        test.promise7Person();
        test.promise7PersonsAtFirst();
        test.promise8Can();
        test.promise8EachPersonsOwn();
        test.promise9BestByPrice();
        test.promise9BestByOrder();
        test.promise9BestWithinWhatOneCan();
        test.promise9EveryPairOfPlaces();
        test.promise9EveryPlaceAlone();
        test.promise9AsManyAsThereAre();
        test.promise9SetsOfTenParts();
        test.promise9Refusals();
        test.promise10Lay();
        test.promise10OldOnes();
        test.promise11Offer();
        test.promise11GainsToTheEdge();
        test.promise11LikeLayings();
        test.promise12Back();
        test.promise13At();
        test.promise13EveryPlace();
        test.promise14Price();
        test.promise14Extremes();
        test.check.end();
    }

    private void promise7Person() {
        ShakyScreens s = new ShakyScreens();
        for (int p = 0; p < 4; p++) {
            check.due("person() the " + p, p, s.person());
            check.due("many(1)", p + 1, s.many(1));
        }
        check.due("a fifth person()", -4, s.person());
        check.due("many(1) then", 4, s.many(1));
    }

    /** Whatever the others have done, a new PERSON has what all have at first. */
    private void promise7PersonsAtFirst() {
        ShakyScreens s = Texts.screens("x1;p1", 0);
        for (int p = 0; p < 4; p++) {
            check.due("person()", p, s.person());
            check.due("no LAYING at first", -3, s.price(p));
            check.due("no old LAYING at first", -3, s.back(p));
            check.due("nothing ASKED at first", -9, s.asked(p));
            check.due("none among the LAST at first", -3, s.undo(p));
            check.due("none COUNTED at first", -9, s.span(p, 1));
            check.due("no TRIALS at first", Long.MIN_VALUE, s.odds(p, 0));
            check.due("the latest TICK at first", -9, s.press(p, 0, 0, 0));
            check.due("WIDE at first", 0, s.can(p, 0, 1));
            check.due("REACH at first", ALL_PLACES, s.can(p, 1, 7));
            check.due("HOLD at first", 10, s.can(p, 2, 2));
            s.lay(p, 1);
            s.lay(p, 3);
            s.press(p, 5, 5, 9);
            s.confirm(p, 9);
            s.press(p, 5, 5, 9);
            s.trial(p, 1, 1);
            for (int q = 0; q < p; q++) {
                check.due("no LEAVE at first", -9, s.leave(p, q, 0, 5));
                check.due("no LEAVE at first, of SPANS", -9, s.leave(p, q, 1, 5));
                check.due("nor for it", -9, s.leave(q, p, 0, 5));
                check.due("nor for it, of SPANS", -9, s.leave(q, p, 1, 5));
            }
        }
    }

    private void promise8EachPersonsOwn() {
        ShakyScreens s = Texts.screens("p1", 4);
        int[] most = {2, ALL_PLACES, 10};
        for (int what = 0; what < 3; what++) {
            for (int p = 0; p < 4; p++) {
                s.can(p, what, most[what] - (what == 0 ? p % 2 : p));
            }
            for (int p = 0; p < 4; p++) {
                int set = most[what] - (what == 0 ? p % 2 : p);
                check.due("what " + what + " of PERSON " + p, set, s.can(p, what, set));
            }
        }
        for (int wide = 0; wide <= 2; wide++) {
            s.can(0, 0, wide);
            check.due("WIDE " + wide, wide, s.can(0, 0, wide));
        }
        for (int hold = 1; hold <= 10; hold++) {
            s.can(0, 2, hold);
            check.due("HOLD " + hold, hold, s.can(0, 2, hold));
        }
    }

    private void promise8Can() {
        ShakyScreens s = Texts.screens("p1;p1", 2);
        int[][] calls = {
            {0, 0, 2, 0}, {0, 0, 0, 2}, {0, 0, 3, -2}, {0, 0, -1, -2}, {0, 1, 0, ALL_PLACES}, {0, 1, ALL_PLACES, 0},
            {0, 1, 4096, -2}, {0, 1, -1, -2}, {0, 2, 1, 10}, {0, 2, 10, 1}, {0, 2, 0, -2}, {0, 2, 11, -2},
            {0, 3, 0, -2}, {0, -1, 0, -2}, {2, 3, 99, -1}, {-1, 0, 0, -1}, {1, 0, 1, 0}, {0, 0, 0, 0}, {1, 0, 0, 1}};
        for (int[] call : calls) {
            check.due("can" + java.util.Arrays.toString(call), call[3], s.can(call[0], call[1], call[2]));
        }
        s.lay(0, 3);
        s.can(0, 1, 0);
        s.can(0, 2, 1);
        check.due("LAYINGS stay", 1, s.at(0, 1));
    }

    private void promise9BestByPrice() {
        ShakyScreens s = Texts.screens("p1;p1>0;p1>0;p1>0;p1>0", 1);
        check.due("four around one", 4, s.best(0, 31, -1));
        check.due("the one amid them", 5, s.best(0, 31, 0));
        int[] places = {5, 1, 4, 6, 9};
        for (int x = 0; x < 5; x++) {
            check.due("PLACE of " + x, places[x], s.best(0, 31, x));
        }
        s.follow(0, 4, 7);
        check.due("FOLLOWS of both ways", 11, s.best(0, 31, -1));
        check.due("a pair", 8, s.best(0, 17, -1));
        s.follow(1, 2, 99);
        check.due("1 and 2 close together", 99 + 1 + 2 + 1 + 8, s.best(0, 31, -1));
        s = Texts.screens("p1;p1>0;p1>0", 1);
        s.can(0, 1, 7);
        check.due("the first of the PARTS amid a row", 2, s.best(0, 7, -1));
        check.due("PLACE of 0 amid them", 1, s.best(0, 7, 0));
        check.due("PLACE of 1 ahead of it", 0, s.best(0, 7, 1));
        check.due("PLACE of 2 behind it", 2, s.best(0, 7, 2));
    }

    private void promise9BestByOrder() {
        ShakyScreens s = Texts.screens("p1;p1;p1>0", 1);
        check.due("PRICE", 1, s.best(0, 7, -1));
        check.due("the first row: PLACE of 0", 0, s.best(0, 7, 0));
        check.due("the first row: PLACE of 1", 1, s.best(0, 7, 1));
        check.due("the first row: PLACE of 2", 4, s.best(0, 7, 2));
        check.due("one PART", 0, s.best(0, 4, -1));
        check.due("one PART's PLACE", 0, s.best(0, 4, 2));
        check.due("not in the set", -9, s.best(0, 4, 1));
        check.due("best() lays nothing", -3, s.price(0));
    }

    private void promise9BestWithinWhatOneCan() {
        ShakyScreens s = Texts.screens("p1;p1>0;p1;p1;p1", 1);
        s.can(0, 0, 1);
        check.due("apart by 2", 2, s.best(0, 3, -1));
        check.due("PLACE 2 is apart", 2, s.best(0, 3, 1));
        check.due("four are apart by 2", 2, s.best(0, 15, -1));
        check.due("no fifth one is", -9, s.best(0, 31, -1));
        s.can(0, 0, 2);
        check.due("apart by 3", 3, s.best(0, 3, -1));
        check.due("three are not apart by 3", -9, s.best(0, 7, -1));
        check.due("none: no PLACE either", -9, s.best(0, 7, 0));
        s.can(0, 0, 0);
        s.can(0, 1, 1 << 3 | 1 << 8 | 1 << 10);
        check.due("within REACH", 2, s.best(0, 3, -1));
        check.due("PLACE of 0 within REACH", 8, s.best(0, 3, 0));
        check.due("PLACE of 1 within REACH", 10, s.best(0, 3, 1));
        check.due("more than REACH has", -9, s.best(0, 15, -1));
        s.can(0, 1, 0);
        check.due("no REACH", -9, s.best(0, 1, -1));
        s.can(0, 1, ALL_PLACES);
        s.can(0, 2, 2);
        check.due("as many as HOLD", 1, s.best(0, 3, -1));
        check.due("more than HOLD", -9, s.best(0, 7, -1));
    }

    private static int dx(int place, int other) {
        return Math.abs(place % 4 - other % 4);
    }

    private static int dy(int place, int other) {
        return Math.abs(place / 4 - other / 4);
    }

    /** REACH has two PLACES alone: they are far enough apart, or there is no LAYING. */
    private void promise9EveryPairOfPlaces() {
        for (int wide = 0; wide <= 2; wide++) {
            ShakyScreens s = Texts.screens("p1;p1>0>0>0", 1);
            s.can(0, 0, wide);
            for (int b = 1; b < 12; b++) {
                for (int a = 0; a < b; a++) {
                    s.can(0, 1, 1 << a | 1 << b);
                    boolean apart = Math.max(dx(a, b), dy(a, b)) > wide;
                    String pair = "PLACES " + a + ", " + b + " by WIDE " + wide;
                    check.due(pair, apart ? 3 * (dx(a, b) + dy(a, b)) : -9, s.best(0, 3, -1));
                    check.due(pair + ": the first has the first", apart ? a : -9, s.best(0, 3, 0));
                    check.due(pair + ": the other one", apart ? b : -9, s.best(0, 3, 1));
                }
            }
        }
    }

    private void promise9EveryPlaceAlone() {
        ShakyScreens s = Texts.screens("p1;p1", 1);
        s.can(0, 0, 2);
        s.can(0, 2, 1);
        for (int place = 0; place < 12; place++) {
            s.can(0, 1, 1 << place);
            check.due("alone at " + place, place, s.best(0, 2, 1));
            check.due("alone it costs nothing", 0, s.best(0, 2, -1));
            check.due("two are more than HOLD", -9, s.best(0, 3, -1));
        }
    }

    /** Five PARTS: as many as HOLD, as PLACES within REACH, and one more than either. */
    private void promise9AsManyAsThereAre() {
        ShakyScreens s = Texts.screens("p1;p1;p1;p1;p1", 1);
        for (int x = 0; x < 5; x++) {
            check.due("no FOLLOWS: the first row of all, of " + x, x, s.best(0, 31, x));
        }
        s.can(0, 1, 0b100101001001);
        s.can(0, 2, 5);
        int[] places = {0, 3, 6, 8, 11};
        check.due("five PLACES", 0, s.best(0, 31, -1));
        for (int x = 0; x < 5; x++) {
            check.due("five PLACES, of " + x, places[x], s.best(0, 31, x));
        }
        s.can(0, 2, 4);
        check.due("five are more than HOLD 4", -9, s.best(0, 31, -1));
        check.due("four are not", 0, s.best(0, 30, -1));
        s.can(0, 2, 5);
        s.can(0, 1, 0b100101001000);
        check.due("five are more than four PLACES", -9, s.best(0, 31, -1));
        check.due("four are not", 3, s.best(0, 30, 1));
        s.can(0, 1, 0b010110100001);
        s.can(0, 0, 1);
        check.due("four PLACES apart by 2 are not among these", -9, s.best(0, 15, -1));
        check.due("three are", 0, s.best(0, 7, -1));
    }

    private void promise9SetsOfTenParts() {
        ShakyScreens s = Texts.screens("p1;p1;p1;p1;p1;p1;p1;p1;p1;p1", 1);
        check.due("the tenth alone", 0, s.best(0, 512, 9));
        check.due("the last five", 4, s.best(0, 992, 9));
        check.due("an eleventh", -2, s.best(0, 1024, -1));
        check.due("the tenth and an eleventh", -2, s.best(0, 1536, -1));
        check.due("six of ten", -2, s.best(0, 1008, -1));
        check.due("all ten", -2, s.best(0, 1023, -1));
        check.due("bit 31", -2, s.best(0, 1 << 31, -1));
        check.due("bit 31 and the first", -2, s.best(0, 1 << 31 | 1, -1));
        check.due("the tenth is none of a set without it", -9, s.best(0, 1, 9));
        check.due("lay() the last five", 0, s.lay(0, 992));
        check.due("the tenth is laid", 9, s.at(0, 4));
        check.due("the sixth is laid", 5, s.at(0, 0));
    }

    private void promise9Refusals() {
        ShakyScreens s = Texts.screens("p1;p1;p1;p1;p1;p1", 1);
        int[][] calls = {
            {1, 1, -1, -1}, {-1, 1, -1, -1}, {0, 0, 6, -1}, {0, 0, -2, -1}, {0, 0, -1, -2}, {0, 64, -1, -2},
            {0, 63, -1, -2}, {0, 65, -1, -2}, {0, -1, -1, -2}, {0, Integer.MIN_VALUE, 0, -2}, {0, 62, -1, 0}};
        for (int[] call : calls) {
            check.due("best" + java.util.Arrays.toString(call), call[3], s.best(call[0], call[1], call[2]));
        }
    }

    private void promise10Lay() {
        ShakyScreens s = Texts.screens("x1;p1>0;p1", 2);
        check.due("lay(0, 3)", 1, s.lay(0, 3));
        check.due("at(0, 1)", 1, s.at(0, 1));
        check.due("another one has none", -9, s.at(1, 1));
        check.due("no old one yet", -3, s.back(0));
        check.due("press", 100, s.press(0, 0, 5, 0));
        s.can(0, 0, 2);
        check.due("lay(0, 7), there is none", -9, s.lay(0, 7));
        check.due("it keeps what it has", 1, s.at(0, 1));
        check.due("ASKED stays", 0, s.asked(0));
        check.due("still no old one", -3, s.back(0));
        check.due("lay(0, 3) further apart", 3, s.lay(0, 3));
        check.due("at(0, 3)", 1, s.at(0, 3));
        check.due("ASKED no more", -9, s.asked(0));
        check.due("the old one is there", 1, s.back(0));
        check.due("at(0, 1) again", 1, s.at(0, 1));
        check.due("lay(2, 0)", -1, s.lay(2, 0));
        check.due("lay(0, 0)", -2, s.lay(0, 0));
        check.due("lay(0, 8)", -2, s.lay(0, 8));
        check.due("lay(0, 8) of no PERSON", -1, s.lay(-1, 8));
    }

    /** lay() ahead of back(), behind it, and none to be had: what is the old one then. */
    private void promise10OldOnes() {
        ShakyScreens s = Texts.screens("p1;p1;p1", 1);
        s.lay(0, 1);
        s.lay(0, 2);
        s.back(0);
        check.due("back to the first", 0, s.at(0, 0));
        s.lay(0, 4);
        check.due("the third", 2, s.at(0, 0));
        s.can(0, 2, 1);
        check.due("none to be had", -9, s.lay(0, 3));
        check.due("the old one is still there", 1, s.back(0));
        check.due("it is the first", 0, s.at(0, 0));
        s.lay(0, 1);
        check.due("the same once more is laid all the same", 1, s.back(0));
        check.due("the first", 0, s.at(0, 0));
        s.back(0);
        check.due("and the old one is the first, too", 0, s.at(0, 0));
    }

    /** PRICE 990 of the LAYING, 198 of the BEST: the gain is 792. */
    private void promise11GainsToTheEdge() {
        int[] gains = {0, 1, 791, 792, 793, 9999};
        for (int gain : gains) {
            ShakyScreens s = Texts.screens("p1;p1", 1);
            s.can(0, 1, 1 | 1 << 11);
            s.lay(0, 3);
            s.can(0, 1, ALL_PLACES);
            s.follow(0, 1, 99);
            s.follow(1, 0, 99);
            check.due("PRICE", 198 * 5, s.price(0));
            boolean taken = gain <= 198 * 4;
            check.due("a gain of " + gain, taken ? 1 : 0, s.offer(0, gain));
            check.due("PRICE behind it", taken ? 198 : 198 * 5, s.price(0));
            check.due("an old one, if it was taken", taken ? 1 : -3, s.back(0));
        }
    }

    /** A gain of 0 takes a LAYING of the same PRICE: another one, whatever it is like. */
    private void promise11LikeLayings() {
        ShakyScreens s = Texts.screens("x1;p1", 1);
        s.can(0, 1, 1 << 6 | 1 << 7);
        s.lay(0, 3);
        s.can(0, 1, ALL_PLACES);
        check.due("DANGER is ASKED", 100, s.press(0, 25, 15, 0));
        check.due("a gain of 1 is not to be had", 0, s.offer(0, 1));
        check.due("so it is still ASKED", 0, s.asked(0));
        check.due("a gain of 0 is", 1, s.offer(0, 0));
        check.due("it lies elsewhere", 0, s.at(0, 0));
        check.due("ASKED no more", -9, s.asked(0));
        check.due("the old one is had back", 1, s.back(0));
        check.due("where it lay", 0, s.at(0, 6));
    }

    private void promise11Offer() {
        ShakyScreens s = Texts.screens("x1;p1;p1", 1);
        check.due("offer() without a LAYING", -3, s.offer(0, 0));
        s.lay(0, 7);
        s.follow(2, 0, 4);
        check.due("PRICE now", 8, s.price(0));
        check.due("a gain of 5 is not to be had", 0, s.offer(0, 5));
        check.due("it stays", 2, s.at(0, 2));
        s.press(0, 0, 0, 1);
        check.due("a gain of 4 is", 1, s.offer(0, 4));
        check.due("the new PRICE", 4, s.price(0));
        check.due("at(0, 4)", 2, s.at(0, 4));
        check.due("ASKED no more", -9, s.asked(0));
        check.due("a gain of 1 is not to be had", 0, s.offer(0, 1));
        check.due("the old one is had back", 1, s.back(0));
        check.due("the old PRICE", 8, s.price(0));
        check.due("a gain of 0 is", 1, s.offer(0, 0));
        check.due("a gain of 0 of the BEST", 1, s.offer(0, 0));
        s.can(0, 0, 1);
        check.due("the BEST is dearer now", 0, s.offer(0, 0));
        s.can(0, 2, 2);
        check.due("there is none now", -9, s.offer(0, 0));
        check.due("it keeps what it has", 4, s.price(0));
        check.due("offer(0, 10000)", -2, s.offer(0, 10000));
        check.due("offer(0, -1)", -2, s.offer(0, -1));
        check.due("offer(0, 9999)", -9, s.offer(0, 9999));
        check.due("offer(1, -1)", -1, s.offer(1, -1));
    }

    private void promise12Back() {
        ShakyScreens s = Texts.screens("x1;p1", 1);
        check.due("back(1)", -1, s.back(1));
        check.due("back(0) at first", -3, s.back(0));
        s.lay(0, 1);
        check.due("back(0) with one LAYING", -3, s.back(0));
        s.lay(0, 2);
        s.lay(0, 3);
        s.press(0, 5, 5, 0);
        check.due("back(0)", 1, s.back(0));
        check.due("only the one before is had back", 1, s.at(0, 0));
        check.due("ASKED no more", -9, s.asked(0));
        check.due("back(0) once more", 1, s.back(0));
        check.due("what it had", 0, s.at(0, 0));
        check.due("what it had, whole", 1, s.at(0, 1));
    }

    private void promise13At() {
        ShakyScreens s = Texts.screens("p1;p1", 1);
        check.due("at(0, 0) without a LAYING", -9, s.at(0, 0));
        s.can(0, 1, 1 << 11 | 1 << 6);
        s.lay(0, 3);
        check.due("at(0, 6)", 0, s.at(0, 6));
        check.due("at(0, 11)", 1, s.at(0, 11));
        check.due("at(0, 0)", -9, s.at(0, 0));
        check.due("at(0, 12)", -1, s.at(0, 12));
        check.due("at(0, -1)", -1, s.at(0, -1));
        check.due("at(1, 0)", -1, s.at(1, 0));
    }

    private void promise13EveryPlace() {
        ShakyScreens s = Texts.screens("p1;p1", 2);
        for (int place = 0; place < 12; place++) {
            s.can(0, 1, 1 << place);
            s.lay(0, 2);
            for (int other = 0; other < 12; other++) {
                check.due("at " + other, other == place ? 1 : -9, s.at(0, other));
            }
        }
        check.due("another PERSON has none", -9, s.at(1, 11));
    }

    /** The dearest pair, and PARTS whose FOLLOWS cost nothing, as one alone has none. */
    private void promise14Extremes() {
        ShakyScreens s = Texts.screens("p1;p1;p1", 1);
        s.follow(0, 1, 99);
        s.follow(1, 0, 99);
        s.follow(0, 2, 99);
        s.can(0, 1, 1 | 1 << 11);
        check.due("lay() as far as can be", 198 * 5, s.lay(0, 3));
        check.due("price()", 198 * 5, s.price(0));
        s.follow(0, 1, 0);
        s.follow(1, 0, 0);
        check.due("as FOLLOWS are now", 0, s.price(0));
        check.due("one PART", 0, s.lay(0, 1));
        check.due("price() of one PART", 0, s.price(0));
    }

    private void promise14Price() {
        ShakyScreens s = Texts.screens("p1;p1;p1", 1);
        check.due("price(0) without a LAYING", -3, s.price(0));
        check.due("price(1)", -1, s.price(1));
        s.can(0, 1, 1 << 0 | 1 << 7 | 1 << 8);
        s.lay(0, 7);
        check.due("price(0)", 0, s.price(0));
        s.follow(0, 1, 3);
        s.follow(1, 0, 5);
        check.due("both ways times dx and dy", 8 * 4, s.price(0));
        s.follow(2, 1, 1);
        check.due("all pairs", 8 * 4 + 4, s.price(0));
        s.follow(2, 0, 99);
        check.due("all pairs, dy alone", 8 * 4 + 4 + 99 * 2, s.price(0));
        s.can(0, 1, 1 << 6 | 1 << 7);
        s.lay(0, 3);
        check.due("PARTS of the LAYING alone", 8, s.price(0));
    }
}

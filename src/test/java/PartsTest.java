/** Promises 1 to 6: a new object, PARTS by a TEXT, WISHES, FOLLOWS. */
public final class PartsTest {
    private final Check check = new Check();

    public static void main(String[] args) {
        PartsTest test = new PartsTest();
        test.promise1NewObject();
        test.promise1NothingIsThere();
        test.promise2TextTaken();
        test.promise2FirstFault();
        test.promise2EveryCode();
        test.promise2FirstOfSeveralFaults();
        test.promise2DigitsOfPartsAhead();
        test.promise2TooManyItems();
        test.promise2LongestTexts();
        test.promise2CodesAreOfTheLane();
        test.promise2RefusalsAndFaults();
        test.promise2FaultyTextChangesNothing();
        test.promise2TakenTextMakesAllAnew();
        test.promise2TakenTextMakesAllFollowsAnew();
        test.promise2TakenTextLeavesTheRest();
        test.promise2PartsStayAsTheSheetChanges();
        test.promise3Part();
        test.promise4Wish();
        test.promise5Follows();
        test.promise6Follow();
        test.promises3To6OfTenParts();
        test.check.end();
    }

    private void promise1NewObject() {
        ShakyScreens s = new ShakyScreens();
        check.due("many(0)", 0, s.many(0));
        check.due("many(1)", 0, s.many(1));
        check.due("part(0, 0) of a new object", -1, s.part(0, 0));
        check.due("at(0, 0) of a new object", -1, s.at(0, 0));
        check.due("trace() of a new object", 0, s.trace());
        check.due("fault() of a new object", 0, s.fault());
        for (int k = 0; k < 4; k++) {
            check.due("lose(" + k + ") of a new object", 0, s.lose(k));
        }
        check.due("SURENESS at first", 5, s.rule(0, 5));
        check.due("PAUSE at first", 10, s.rule(1, 10));
    }

    /** What would be answered otherwise, if there were PARTS, PERSONS, SHEETS. */
    private void promise1NothingIsThere() {
        String[] unknown = {"part 0 0", "wish 0 1", "follows 0 1", "follow 0 1 1", "can 0 0 0", "best 0 1 -1", "lay 0 1",
            "offer 0 0", "back 0", "at 0 0", "price 0", "kept 0 1 1", "press 0 0 0 0", "confirm 0 0", "asked 0", "undo 0",
            "counted 0 0", "span 0 1", "trial 0 0 0", "leave 0 1 0 0", "see 0 0 0 0", "told 0 0 1 0", "tell 0", "speak 0",
            "as 0 0"};
        ShakyScreens s = new ShakyScreens();
        for (String call : unknown) {
            check.due(call + " of a new object", -1, Calls.answer(s, call));
        }
        check.due("ways(1, 2, -1): no PARTS are a set", -2, s.ways(1, 2, -1));
        check.due("worse(0, 0)", Long.MIN_VALUE, s.worse(0, 0));
        check.due("odds(0, 0)", Long.MIN_VALUE, s.odds(0, 0));
        for (int k = 0; k < 4; k++) {
            check.due("text of a SHEET that has nothing", -11, s.text(k, 0, 0, 0));
            check.due("put into a SHEET that has nothing", -11, s.put(k, 0, 0));
        }
        check.due("person()", 0, s.person());
        check.due("best(0, 1, -1) without PARTS", -2, s.best(0, 1, -1));
        check.due("best(0, 1, 0) without PARTS", -1, s.best(0, 1, 0));
        check.due("lay(0, 1) without PARTS", -2, s.lay(0, 1));
        check.due("kept(0, 1, 1) without PARTS", -2, s.kept(0, 1, 1));
        check.due("press without PARTS", -9, s.press(0, 5, 5, 0));
        check.due("no LAYING ahead of any TEXT", -3, s.price(0));
        check.due("none is offered", -3, s.offer(0, 0));
        check.due("no old LAYING ahead of any TEXT", -3, s.back(0));
        for (int place = 0; place < 12; place++) {
            check.due("no PART at " + place + " ahead of any TEXT", -9, s.at(0, place));
            check.due("none is seen at " + place, -9, s.see(0, 0, place, 0));
        }
    }

    private void promise2TextTaken() {
        ShakyScreens s = new ShakyScreens();
        check.due("one item", 1, Texts.take(s, "p0"));
        check.due("WISHES with zeros ahead", 1, Texts.take(s, "d007"));
        check.due("WISHES 007", 7, s.part(0, 1));
        check.due("two PARTS", 2, Texts.take(s, "p999;x1>0>0>0"));
        check.due("kind of x", 2, s.part(1, 0));
        check.due("WISHES 999", 999, s.part(0, 1));
        check.due("FOLLOWS three times", 3, s.follows(1, 0));
        check.due("FOLLOWS the other way", 0, s.follows(0, 1));
        check.due("ten PARTS", 10, Texts.take(s, "p1;p1;p1;p1;p1;p1;p1;p1;p1;p1>8>0"));
        check.due("FOLLOWS of 9 and 8", 1, s.follows(9, 8));
        check.due("FOLLOWS of 9 and 0", 1, s.follows(9, 0));
        s.sheet(0, 0, 6);
        putAll(s, 0, "?p12;?");
        check.due("cells from 1 on", 1, s.text(0, 0, 1, 3));
        check.due("WISHES of those cells", 12, s.part(0, 1));
        check.due("FIRST FAULT told from the TEXT's start", -104, s.text(0, 0, 1, 4));
    }

    private void promise2FirstFault() {
        String[] texts = {"", "p", "q5", "P5", "p5;", "p5;d", "p5 ", "p1234", "px", "p5>", "p5>0", "p1;p2>1",
            "p1;p2>2", "p1;p2>0>", "p1;p2>>", "p1;;p2", ";p1", "5", ">0", "p1;p2>x", "p1;p2>01", "p1>0;p2", "p12p1"};
        int[] places = {0, 1, 0, 0, 3, 4, 2, 4, 1, 3, 3, 6, 6, 8, 6, 3, 0, 0, 0, 6, 7, 3, 3};
        for (int k = 0; k < texts.length; k++) {
            check.due("TEXT " + texts[k], -100 - places[k], Texts.take(new ShakyScreens(), texts[k]));
        }
    }

    private static boolean isDigit(int code) {
        return code >= 48 && code <= 57;
    }

    private static boolean isSign(int code) {
        return code == 59 || code == 62;
    }

    /** Each code of a byte, at each place of a TEXT where others may come. */
    private void promise2EveryCode() {
        for (int code = -128; code < 128; code++) {
            boolean letter = code == 112 || code == 100 || code == 120;
            dueWithCode("", code, letter ? -101 : -100);
            dueWithCode("p", code, isDigit(code) ? 1 : -101);
            dueWithCode("d5", code, isDigit(code) ? 1 : isSign(code) ? -103 : -102);
            dueWithCode("d57", code, isDigit(code) ? 1 : isSign(code) ? -104 : -103);
            dueWithCode("x123", code, isSign(code) ? -105 : -104);
            dueWithCode("p1;", code, letter ? -104 : -103);
            dueWithCode("p1;p2>", code, code == 48 ? 2 : -106);
            dueWithCode("p1;p2>0", code, isSign(code) ? -108 : -107);
        }
    }

    private void dueWithCode(String text, int code, int want) {
        ShakyScreens s = new ShakyScreens();
        s.sheet(0, 0, text.length() + 1);
        putAll(s, 0, text);
        s.put(0, text.length(), code);
        check.due("TEXT " + text + " and code " + code, want, s.text(0, 0, 0, text.length() + 1));
        check.due("a TEXT that is not taken is no FAULT", 0, s.fault());
    }

    private void promise2FirstOfSeveralFaults() {
        String[] texts = {"q5;?", "p1?;q", "p1234;q", "p1;p2>2>3", "p1;p2>0>1;q", "p;p;", "p5>0>0", "??"};
        int[] places = {0, 2, 4, 6, 8, 1, 3, 0};
        for (int k = 0; k < texts.length; k++) {
            check.due("TEXT " + texts[k], -100 - places[k], Texts.take(new ShakyScreens(), texts[k]));
        }
    }

    /** Of each item all digits: those of the PARTS ahead are taken, its own and those beyond are not. */
    private void promise2DigitsOfPartsAhead() {
        StringBuilder items = new StringBuilder("p0");
        for (int item = 1; item < 10; item++) {
            items.append(";p0>");
            for (int digit = 0; digit < 10; digit++) {
                ShakyScreens s = new ShakyScreens();
                boolean ahead = digit < item;
                check.due(items.toString() + digit, ahead ? item + 1 : -100 - items.length(),
                        Texts.take(s, items.toString() + digit));
                check.due("FOLLOWS of " + item + " and " + digit, ahead ? 1 : -1, s.follows(item, digit));
            }
            items.setLength(items.length() - 1);
        }
    }

    /** All 60 cells of a SHEET; and how often one PART may come behind another in them. */
    private void promise2LongestTexts() {
        ShakyScreens s = new ShakyScreens();
        String text = "p1;d12" + ">0".repeat(27);
        check.due("60 codes", 2, Texts.take(s, text));
        check.due("FOLLOWS in 60 codes", 27, s.follows(1, 0));
        check.due("FOLLOWS the other way", 0, s.follows(0, 1));
        check.due("60 codes that end too soon", -160, Texts.take(s, "p1;d1" + ">0".repeat(27) + ">"));
        check.due("a fault of the last code", -159, Texts.take(s, text.substring(0, 59) + "1"));
        check.due("60 codes of ten items", 10, Texts.take(s, "d999;".repeat(9) + "p99>0>1>8>8>8>8"));
        check.due("WISHES of the ninth", 999, s.part(8, 1));
        check.due("WISHES of the tenth", 99, s.part(9, 1));
        check.due("FOLLOWS of the tenth and the ninth", 4, s.follows(9, 8));
    }

    private void promise2CodesAreOfTheLane() {
        int[] beyond = {256, 65536, 0};
        for (int lane = 0; lane < 3; lane++) {
            for (int written = 0; written < 3; written++) {
                ShakyScreens s = new ShakyScreens();
                s.sheet(0, lane, 2);
                s.put(0, 0, 112 + beyond[written]);
                s.put(0, 1, 53 - beyond[written]);
                boolean cut = written == 2 || lane <= written;
                check.due("code 112 and " + beyond[written] + " in LANE " + lane, cut ? 1 : -100, s.text(0, lane, 0, 2));
            }
        }
    }

    private void promise2TooManyItems() {
        String ten = "p1;p1;p1;p1;p1;p1;p1;p1;p1;p1";
        check.due("no TEXT goes on with an eleventh item", -129, Texts.take(new ShakyScreens(), ten + ";p1"));
        check.due("a ; behind the tenth item", -129, Texts.take(new ShakyScreens(), ten + ";"));
    }

    private void promise2RefusalsAndFaults() {
        ShakyScreens s = new ShakyScreens();
        s.sheet(0, 0, 2);
        putAll(s, 0, "p5");
        int[][] calls = {
            {-1, 0, 0, 2, -1}, {4, 9, 0, 2, -1}, {0, 3, 0, 2, -2}, {0, -1, 0, 2, -2}, {1, 3, 0, 2, -2},
            {0, 1, 0, -1, -12}, {0, 2, -1, 2, -12}, {1, 0, -1, -1, -11}, {1, 2, 0, 2, -11},
            {0, 0, -1, -1, -14}, {0, 0, 0, Integer.MIN_VALUE, -14}, {0, 0, -1, 0, -13}, {0, 0, 3, 0, -13},
            {0, 0, 2, 1, -13}, {0, 0, 0, 3, -13}, {0, 0, 1, Integer.MAX_VALUE, -13},
            {0, 0, Integer.MAX_VALUE, 1, -13}, {0, 0, 2, 0, -100}, {0, 0, 0, 2, 1}};
        for (int[] call : calls) {
            check.due("text" + java.util.Arrays.toString(call), call[4], s.text(call[0], call[1], call[2], call[3]));
            int fault = call[4] <= -11 && call[4] >= -14 ? -10 - call[4] : 0;
            check.due("fault() behind text" + java.util.Arrays.toString(call), fault, s.fault());
        }
        s.sheet(1, 0, 2);
        s.put(1, 0, 112 + 256);
        s.put(1, 1, 53 - 256);
        check.due("codes are cut to the LANE as they come", 1, s.text(1, 0, 0, 2));
        s.sheet(1, 1, 2);
        s.put(1, 0, 112 + 256);
        s.put(1, 1, 53);
        check.due("another code in a wider LANE", -100, s.text(1, 1, 0, 2));
    }

    private void promise2FaultyTextChangesNothing() {
        ShakyScreens s = Texts.screens("x5;p7>0", 1);
        s.lay(0, 3);
        s.press(0, 0, 5, 0);
        check.due("a faulty TEXT", -102, Texts.take(s, "d1?"));
        check.due("PARTS stay", 2, s.many(0));
        check.due("kinds stay", 2, s.part(0, 0));
        check.due("WISHES stay", 7, s.part(1, 1));
        check.due("FOLLOWS stay", 1, s.follows(1, 0));
        check.due("LAYING stays", 0, s.at(0, 0));
        check.due("ASKED stays", 0, s.asked(0));
    }

    private void promise2TakenTextMakesAllAnew() {
        ShakyScreens s = Texts.screens("x5;p7>0;p1>1", 2);
        s.can(0, 0, 1);
        s.lay(0, 3);
        s.lay(0, 1);
        s.lay(1, 1);
        s.press(0, 5, 5, 4);
        s.confirm(0, 5);
        s.press(0, 5, 5, 6);
        check.due("DANGER is ASKED", 0, s.asked(0));
        check.due("a new TEXT", 2, Texts.take(s, "d1;d2"));
        check.due("old FOLLOWS are gone", 0, s.follows(1, 0));
        check.due("only its PARTS", -1, s.part(2, 0));
        check.due("LAYINGS are gone", -3, s.price(0));
        check.due("LAYINGS of all are gone", -3, s.price(1));
        check.due("old LAYINGS are gone", -3, s.back(0));
        check.due("nothing is ASKED", -9, s.asked(0));
        check.due("COUNTED stays", 1, s.counted(0, 0));
        check.due("the latest TICK stays", -3, s.press(0, 5, 5, 5));
        check.due("WIDE stays", 1, s.can(0, 0, 0));
    }

    private void promise2TakenTextMakesAllFollowsAnew() {
        ShakyScreens s = Texts.screens("p1;p1;p1", 0);
        for (int a = 0; a < 3; a++) {
            for (int b = 0; b < 3; b++) {
                s.follow(a, b, 10 * a + b + 1);
            }
            s.wish(a, 99);
        }
        check.due("fewer PARTS", 1, Texts.take(s, "d7"));
        check.due("WISHES are the new ones", 7, s.part(0, 1));
        check.due("then more PARTS", 3, Texts.take(s, "p2;p3;p4>1"));
        for (int a = 0; a < 3; a++) {
            check.due("kind anew", 0, s.part(a, 0));
            check.due("WISHES anew", 2 + a, s.part(a, 1));
            for (int b = 0; b < 3; b++) {
                int want = a == b ? -2 : a == 2 && b == 1 ? 1 : 0;
                check.due("FOLLOWS anew of " + a + " and " + b, want, s.follows(a, b));
            }
        }
    }

    private void promise2TakenTextLeavesTheRest() {
        ShakyScreens s = Texts.screens("d5", 2);
        s.lay(0, 1);
        s.press(0, 15, 5, 3);
        s.press(0, 5, 5, 3);
        s.trial(0, 1, 2);
        s.leave(0, 1, 1, 70);
        s.rule(0, 7);
        s.rule(1, 70);
        s.sheet(1, 0, 1);
        s.put(1, 0, 33);
        Texts.take(s, "p1;p1");
        check.due("LAST stay", 1, s.counted(0, 2));
        check.due("the latest of LAST", 0, s.undo(0));
        check.due("the one ahead of it", 2, s.undo(0));
        check.due("TRIALS stay", 2, s.trial(0, 1, 2));
        check.due("LEAVE stays", 70, s.leave(0, 1, 1, -1));
        check.due("SURENESS stays", 7, s.rule(0, 5));
        check.due("PAUSE stays", 70, s.rule(1, 5));
        check.due("PERSONS stay", 2, s.many(1));
        check.due("SHEETS stay", 33, s.cell(1, 0, 0));
        check.due("the TEXT's own SHEET stays", 'p', s.cell(3, 3, 2));
    }

    private void promise2PartsStayAsTheSheetChanges() {
        ShakyScreens s = Texts.screens("p5;d6>0", 0);
        s.put(3, 1, '7');
        s.put(3, 3, 'x');
        check.due("WISHES as they were told", 5, s.part(0, 1));
        check.due("kind as it was told", 1, s.part(1, 0));
        s.lose(3);
        check.due("PARTS without the SHEET", 2, s.many(0));
        check.due("FOLLOWS without the SHEET", 1, s.follows(1, 0));
    }

    private void promise3Part() {
        ShakyScreens s = Texts.screens("p5;d12;x3", 0);
        int[] wishes = {5, 12, 3};
        for (int x = 0; x < 3; x++) {
            check.due("kind of " + x, x, s.part(x, 0));
            check.due("WISHES of " + x, wishes[x], s.part(x, 1));
        }
        check.due("part(3, 0)", -1, s.part(3, 0));
        check.due("part(-1, 0)", -1, s.part(-1, 0));
        check.due("part(3, 9)", -1, s.part(3, 9));
        check.due("part(0, 2)", -2, s.part(0, 2));
        check.due("part(0, -1)", -2, s.part(0, -1));
    }

    private void promise4Wish() {
        ShakyScreens s = Texts.screens("p5;d12", 0);
        check.due("wish(0, 999)", 5, s.wish(0, 999));
        check.due("wish(0, 0)", 999, s.wish(0, 0));
        check.due("WISHES now", 0, s.part(0, 1));
        check.due("wish(0, 1000)", -2, s.wish(0, 1000));
        check.due("wish(0, -1)", -2, s.wish(0, -1));
        check.due("wish(2, -1)", -1, s.wish(2, -1));
        check.due("WISHES stay", 0, s.part(0, 1));
        check.due("WISHES of another one stay", 12, s.part(1, 1));
    }

    private void promise5Follows() {
        ShakyScreens s = Texts.screens("p5;d12>0>0", 0);
        check.due("follows(1, 0)", 2, s.follows(1, 0));
        check.due("follows(0, 1)", 0, s.follows(0, 1));
        check.due("follows(1, 1)", -2, s.follows(1, 1));
        check.due("follows(2, 2)", -1, s.follows(2, 2));
        check.due("follows(0, 2)", -1, s.follows(0, 2));
        check.due("follows(-1, 0)", -1, s.follows(-1, 0));
    }

    private void promise6Follow() {
        ShakyScreens s = Texts.screens("p5;d12>0>0", 0);
        check.due("follow(1, 0, 99)", 2, s.follow(1, 0, 99));
        check.due("follow(1, 0, 0)", 99, s.follow(1, 0, 0));
        check.due("follow(0, 1, 3)", 0, s.follow(0, 1, 3));
        check.due("follows(0, 1)", 3, s.follows(0, 1));
        check.due("follows(1, 0)", 0, s.follows(1, 0));
        check.due("follow(0, 1, 100)", -2, s.follow(0, 1, 100));
        check.due("follow(0, 1, -1)", -2, s.follow(0, 1, -1));
        check.due("follow(1, 1, 1)", -2, s.follow(1, 1, 1));
        check.due("follow(2, 2, 100)", -1, s.follow(2, 2, 100));
        check.due("follow(0, 2, 1)", -1, s.follow(0, 2, 1));
        check.due("follows(0, 1) stays", 3, s.follows(0, 1));
    }

    private void promises3To6OfTenParts() {
        ShakyScreens s = Texts.screens("p0;p0;p0;p0;p0;p0;p0;p0;p0;x0", 0);
        check.due("part(9, 0)", 2, s.part(9, 0));
        check.due("part(10, 0)", -1, s.part(10, 0));
        check.due("wish(9, 999)", 0, s.wish(9, 999));
        check.due("part(9, 1)", 999, s.part(9, 1));
        check.due("wish(10, 0)", -1, s.wish(10, 0));
        check.due("follow(9, 8, 99)", 0, s.follow(9, 8, 99));
        check.due("follow(8, 9, 1)", 0, s.follow(8, 9, 1));
        check.due("follow(0, 9, 98)", 0, s.follow(0, 9, 98));
        check.due("follows(9, 8)", 99, s.follows(9, 8));
        check.due("follows(8, 9)", 1, s.follows(8, 9));
        check.due("follows(0, 9)", 98, s.follows(0, 9));
        check.due("follows(9, 0)", 0, s.follows(9, 0));
        check.due("follows(9, 10)", -1, s.follows(9, 10));
        check.due("follow(10, 9, 0)", -1, s.follow(10, 9, 0));
    }

    private static void putAll(ShakyScreens s, int sheet, String codes) {
        for (int i = 0; i < codes.length(); i++) {
            s.put(sheet, i, codes.charAt(i));
        }
    }
}

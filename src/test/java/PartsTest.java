/** Promises 1 to 6: a new object, PARTS by a TEXT, WISHES, FOLLOWS. */
public final class PartsTest {
    private final Check check = new Check();

    public static void main(String[] args) {
        PartsTest test = new PartsTest();
        test.promise1NewObject();
        test.promise2TextTaken();
        test.promise2FirstFault();
        test.promise2TooManyItems();
        test.promise2RefusalsAndFaults();
        test.promise2FaultyTextChangesNothing();
        test.promise2TakenTextMakesAllAnew();
        test.promise3Part();
        test.promise4Wish();
        test.promise5Follows();
        test.promise6Follow();
        test.check.end();
    }

    private void promise1NewObject() {
        ShakyScreens s = new ShakyScreens();
        check.due("many(0)", 0, s.many(0));
        check.due("many(1)", 0, s.many(1));
        check.due("part(0, 0) of a new object", -1, s.part(0, 0));
        check.due("at(0, 0) of a new object", -1, s.at(0, 0));
        check.due("trace() of a new object", 0, s.trace());
        check.due("fault() of a new object", 0, s.fault());
        for (int k = 0; k < 4; k++) {
            check.due("lose(" + k + ") of a new object", 0, s.lose(k));
        }
        check.due("SURENESS at first", 5, s.rule(0, 5));
        check.due("PAUSE at first", 10, s.rule(1, 10));
    }

    private void promise2TextTaken() {
        ShakyScreens s = new ShakyScreens();
        check.due("one item", 1, Texts.take(s, "p0"));
        check.due("WISHES with zeros ahead", 1, Texts.take(s, "d007"));
        check.due("WISHES 007", 7, s.part(0, 1));
        check.due("two PARTS", 2, Texts.take(s, "p999;x1>0>0>0"));
        check.due("kind of x", 2, s.part(1, 0));
        check.due("WISHES 999", 999, s.part(0, 1));
        check.due("FOLLOWS three times", 3, s.follows(1, 0));
        check.due("FOLLOWS the other way", 0, s.follows(0, 1));
        check.due("ten PARTS", 10, Texts.take(s, "p1;p1;p1;p1;p1;p1;p1;p1;p1;p1>8>0"));
        check.due("FOLLOWS of 9 and 8", 1, s.follows(9, 8));
        check.due("FOLLOWS of 9 and 0", 1, s.follows(9, 0));
        s.sheet(0, 0, 6);
        putAll(s, 0, "?p12;?");
        check.due("cells from 1 on", 1, s.text(0, 0, 1, 3));
        check.due("WISHES of those cells", 12, s.part(0, 1));
        check.due("FIRST FAULT told from the TEXT's start", -104, s.text(0, 0, 1, 4));
    }

    private void promise2FirstFault() {
        String[] texts = {"", "p", "q5", "P5", "p5;", "p5;d", "p5 ", "p1234", "px", "p5>", "p5>0", "p1;p2>1",
            "p1;p2>2", "p1;p2>0>", "p1;p2>>", "p1;;p2", ";p1", "5", ">0", "p1;p2>x", "p1;p2>01", "p1>0;p2", "p12p1"};
        int[] places = {0, 1, 0, 0, 3, 4, 2, 4, 1, 3, 3, 6, 6, 8, 6, 3, 0, 0, 0, 6, 7, 3, 3};
        for (int k = 0; k < texts.length; k++) {
            check.due("TEXT " + texts[k], -100 - places[k], Texts.take(new ShakyScreens(), texts[k]));
        }
    }

    private void promise2TooManyItems() {
        String ten = "p1;p1;p1;p1;p1;p1;p1;p1;p1;p1";
        check.due("no TEXT goes on with an eleventh item", -129, Texts.take(new ShakyScreens(), ten + ";p1"));
        check.due("a ; behind the tenth item", -129, Texts.take(new ShakyScreens(), ten + ";"));
    }

    private void promise2RefusalsAndFaults() {
        ShakyScreens s = new ShakyScreens();
        s.sheet(0, 0, 2);
        putAll(s, 0, "p5");
        int[][] calls = {
            {-1, 0, 0, 2, -1}, {4, 9, 0, 2, -1}, {0, 3, 0, 2, -2}, {0, -1, 0, 2, -2}, {1, 3, 0, 2, -2},
            {0, 1, 0, -1, -12}, {0, 2, -1, 2, -12}, {1, 0, -1, -1, -11}, {1, 2, 0, 2, -11},
            {0, 0, -1, -1, -14}, {0, 0, 0, Integer.MIN_VALUE, -14}, {0, 0, -1, 0, -13}, {0, 0, 3, 0, -13},
            {0, 0, 2, 1, -13}, {0, 0, 0, 3, -13}, {0, 0, 1, Integer.MAX_VALUE, -13},
            {0, 0, Integer.MAX_VALUE, 1, -13}, {0, 0, 2, 0, -100}, {0, 0, 0, 2, 1}};
        for (int[] call : calls) {
            check.due("text" + java.util.Arrays.toString(call), call[4], s.text(call[0], call[1], call[2], call[3]));
            int fault = call[4] <= -11 && call[4] >= -14 ? -10 - call[4] : 0;
            check.due("fault() behind text" + java.util.Arrays.toString(call), fault, s.fault());
        }
        s.sheet(1, 0, 2);
        s.put(1, 0, 112 + 256);
        s.put(1, 1, 53 - 256);
        check.due("codes are cut to the LANE as they come", 1, s.text(1, 0, 0, 2));
        s.sheet(1, 1, 2);
        s.put(1, 0, 112 + 256);
        s.put(1, 1, 53);
        check.due("another code in a wider LANE", -100, s.text(1, 1, 0, 2));
    }

    private void promise2FaultyTextChangesNothing() {
        ShakyScreens s = Texts.screens("x5;p7>0", 1);
        s.lay(0, 3);
        s.press(0, 0, 5, 0);
        check.due("a faulty TEXT", -102, Texts.take(s, "d1?"));
        check.due("PARTS stay", 2, s.many(0));
        check.due("kinds stay", 2, s.part(0, 0));
        check.due("WISHES stay", 7, s.part(1, 1));
        check.due("FOLLOWS stay", 1, s.follows(1, 0));
        check.due("LAYING stays", 0, s.at(0, 0));
        check.due("ASKED stays", 0, s.asked(0));
    }

    private void promise2TakenTextMakesAllAnew() {
        ShakyScreens s = Texts.screens("x5;p7>0;p1>1", 2);
        s.can(0, 0, 1);
        s.lay(0, 3);
        s.lay(0, 1);
        s.lay(1, 1);
        s.press(0, 5, 5, 4);
        s.confirm(0, 5);
        s.press(0, 5, 5, 6);
        check.due("DANGER is ASKED", 0, s.asked(0));
        check.due("a new TEXT", 2, Texts.take(s, "d1;d2"));
        check.due("old FOLLOWS are gone", 0, s.follows(1, 0));
        check.due("only its PARTS", -1, s.part(2, 0));
        check.due("LAYINGS are gone", -3, s.price(0));
        check.due("LAYINGS of all are gone", -3, s.price(1));
        check.due("old LAYINGS are gone", -3, s.back(0));
        check.due("nothing is ASKED", -9, s.asked(0));
        check.due("COUNTED stays", 1, s.counted(0, 0));
        check.due("the latest TICK stays", -3, s.press(0, 5, 5, 5));
        check.due("WIDE stays", 1, s.can(0, 0, 0));
    }

    private void promise3Part() {
        ShakyScreens s = Texts.screens("p5;d12;x3", 0);
        int[] wishes = {5, 12, 3};
        for (int x = 0; x < 3; x++) {
            check.due("kind of " + x, x, s.part(x, 0));
            check.due("WISHES of " + x, wishes[x], s.part(x, 1));
        }
        check.due("part(3, 0)", -1, s.part(3, 0));
        check.due("part(-1, 0)", -1, s.part(-1, 0));
        check.due("part(3, 9)", -1, s.part(3, 9));
        check.due("part(0, 2)", -2, s.part(0, 2));
        check.due("part(0, -1)", -2, s.part(0, -1));
    }

    private void promise4Wish() {
        ShakyScreens s = Texts.screens("p5;d12", 0);
        check.due("wish(0, 999)", 5, s.wish(0, 999));
        check.due("wish(0, 0)", 999, s.wish(0, 0));
        check.due("WISHES now", 0, s.part(0, 1));
        check.due("wish(0, 1000)", -2, s.wish(0, 1000));
        check.due("wish(0, -1)", -2, s.wish(0, -1));
        check.due("wish(2, -1)", -1, s.wish(2, -1));
        check.due("WISHES stay", 0, s.part(0, 1));
        check.due("WISHES of another one stay", 12, s.part(1, 1));
    }

    private void promise5Follows() {
        ShakyScreens s = Texts.screens("p5;d12>0>0", 0);
        check.due("follows(1, 0)", 2, s.follows(1, 0));
        check.due("follows(0, 1)", 0, s.follows(0, 1));
        check.due("follows(1, 1)", -2, s.follows(1, 1));
        check.due("follows(2, 2)", -1, s.follows(2, 2));
        check.due("follows(0, 2)", -1, s.follows(0, 2));
        check.due("follows(-1, 0)", -1, s.follows(-1, 0));
    }

    private void promise6Follow() {
        ShakyScreens s = Texts.screens("p5;d12>0>0", 0);
        check.due("follow(1, 0, 99)", 2, s.follow(1, 0, 99));
        check.due("follow(1, 0, 0)", 99, s.follow(1, 0, 0));
        check.due("follow(0, 1, 3)", 0, s.follow(0, 1, 3));
        check.due("follows(0, 1)", 3, s.follows(0, 1));
        check.due("follows(1, 0)", 0, s.follows(1, 0));
        check.due("follow(0, 1, 100)", -2, s.follow(0, 1, 100));
        check.due("follow(0, 1, -1)", -2, s.follow(0, 1, -1));
        check.due("follow(1, 1, 1)", -2, s.follow(1, 1, 1));
        check.due("follow(2, 2, 100)", -1, s.follow(2, 2, 100));
        check.due("follow(0, 2, 1)", -1, s.follow(0, 2, 1));
        check.due("follows(0, 1) stays", 3, s.follows(0, 1));
    }

    private static void putAll(ShakyScreens s, int sheet, String codes) {
        for (int i = 0; i < codes.length(); i++) {
            s.put(sheet, i, codes.charAt(i));
        }
    }
}

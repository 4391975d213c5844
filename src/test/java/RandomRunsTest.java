import java.lang.reflect.InvocationTargetException;
import java.lang.reflect.Method;
import java.util.ArrayList;
import java.util.HashMap;
import java.util.List;
import java.util.Map;
import java.util.Random;

/** Runs of calls, drawn by a fixed seed, whose every answer must be the plain model's (promises 1 to 40). */
public final class RandomRunsTest {
    private static final int RUNS = 1200, CALLS = 512, MOST_WRONG = 20;
    private static final int[] EDGES = {Integer.MIN_VALUE, Integer.MAX_VALUE, -1, -2, 0, 1 << 12, 1 << 30};

    /** Which numbers a call mostly gets: p PERSON, x PART, X PART or -1, s a set, t a TICK, others by range. */
    private static final String[][] GROUPS = {
        {"part x 0-1", "wish x 0-999", "wish x 0-9", "follows x x", "follow x x 0-99", "follow x x 0-3"},
        {"person", "can p 0-0 0-2", "can p 1-1 0-4095", "can p 2-2 1-10", "best p s X", "lay p s", "lay p s",
            "offer p 0-9999", "offer p 0-9", "back p", "at p 0-11", "price p"},
        {"ways s 2-9 X", "ways S 2-9 X", "kept p s 1-9", "kept p S 1-4"},
        {"rule 0-0 0-10", "rule 1-1 0-99", "rule 1-1 0-9", "lay p s", "press p 0-39 0-29 t", "press p 0-39 0-29 t", "press p 0-39 0-9 t",
            "press p 0-39 0-9 t", "press p 0-39 0-9 t", "confirm p t", "confirm p t", "asked p", "undo p",
            "counted p 0-2", "span p 1-10", "worse p 0-1", "worse p 0-1"},
        {"trial p 0-99 0-99", "trial p 0-3 0-3", "odds p 0-1", "leave p p 0-1 t", "leave p p 0-1 -1--1",
            "see p p 0-11 t", "told p p 1-10 t"},
        {"sheet 0-3 0-2 0-60", "lose 0-3", "put 0-3 0-30 112-112", "put 0-3 0-60 -99999-99999",
            "cell 0-3 0-60 0-2", "copy 0-3 0-60 0-3 0-60 0-60", "copy 0-3 0-9 0-3 0-9 0-9", "tell x",
            "speak x", "as x 0-2", "trace", "fault", "fault", "many 0-1", "text 0-3 0-2 0-60 0-60"},
    };

    private static final Map<String, Method> REAL = methodsOf(ShakyScreens.class);
    private static final Map<String, Method> PLAIN = methodsOf(PlainModel.class);

    private final Check check;
    private final Random random;
    private final int run;
    private final ShakyScreens real = new ShakyScreens();
    private final PlainModel plain = new PlainModel();
    private int calls = 0;
    private int tick = 0;

    private RandomRunsTest(Check check, int run) {
        this.check = check;
        this.run = run;
        this.random = new Random(7_919L * run + 1);
    }

    public static void main(String[] args) {
        Check check = new Check();
        for (int run = 0; run < RUNS && check.wrongOnes() < MOST_WRONG; run++) {
            new RandomRunsTest(check, run).go();
        }
        check.end();
    }

    private static Map<String, Method> methodsOf(Class<?> of) {
        Map<String, Method> methods = new HashMap<>();
        for (Method method : of.getDeclaredMethods()) {
            boolean ofTheFace = !java.lang.reflect.Modifier.isPrivate(method.getModifiers())
                    && !method.isSynthetic();
            if (ofTheFace) {
                methods.put(method.getName(), method);
            }
        }
        return methods;
    }

    private void go() {
        int emphasis = random.nextInt(GROUPS.length + 1);
        for (int p = random.nextInt(4); p >= 0; p--) {
            call("person");
        }
        takeSomeText();
        while (calls < CALLS) {
            boolean emphasised = emphasis < GROUPS.length && random.nextInt(10) < 6;
            int group = emphasised ? emphasis : random.nextInt(GROUPS.length);
            if (random.nextInt(group == 0 ? 12 : 150) == 0) {
                takeSomeText();
            } else {
                drawCall(GROUPS[group][random.nextInt(GROUPS[group].length)]);
            }
        }
    }

    private void drawCall(String drawn) {
        String[] words = drawn.split(" ");
        Object[] numbers = new Object[words.length - 1];
        for (int k = 0; k < numbers.length; k++) {
            numbers[k] = random.nextInt(40) == 0 ? wild(words[k + 1]) : fit(words[k + 1]);
        }
        call(words[0], numbers);
    }

    private int wild(String kind) {
        if (kind.length() > 1) {
            String[] range = kind.split("(?<=[0-9])-");
            int side = random.nextInt(3);
            if (side < 2) {
                return side == 0 ? Integer.parseInt(range[0]) - 1 : Integer.parseInt(range[1]) + 1;
            }
        }
        return random.nextBoolean() ? EDGES[random.nextInt(EDGES.length)] : random.nextInt(24) - 4;
    }

    private int fit(String kind) {
        int parts = Math.max(1, plain.many(0));
        switch (kind) {
            case "p":
                return random.nextInt(Math.max(1, plain.many(1)));
            case "x":
                return random.nextInt(parts);
            case "X":
                return random.nextInt(parts + 1) - 1;
            case "S":
                return (1 << parts) - 1;
            case "s":
                return someSet(parts);
            case "t":
                tick = Math.min(9999, tick + random.nextInt(6) * random.nextInt(4));
                return Math.max(0, tick - (random.nextInt(12) == 0 ? random.nextInt(30) : 0));
            default:
                String[] range = kind.split("(?<=[0-9])-");
                int least = Integer.parseInt(range[0]);
                return least + random.nextInt(Integer.parseInt(range[1]) - least + 1);
        }
    }

    /** Mostly up to four PARTS: the model tries every LAYING of them, and five take it long. */
    private int someSet(int parts) {
        int most = random.nextInt(25) == 0 ? 6 : 1 + random.nextInt(4);
        int set = 0;
        for (int k = 0; k < most; k++) {
            set |= 1 << random.nextInt(parts);
        }
        return set;
    }

    private void takeSomeText() {
        String text = someText();
        int sheet = random.nextInt(4);
        int lane = random.nextInt(3);
        int ahead = random.nextInt(3);
        call("sheet", sheet, lane, Math.min(60, ahead + text.length()));
        for (int k = 0; k < text.length(); k++) {
            call("put", sheet, ahead + k, (int) text.charAt(k));
        }
        call("text", sheet, lane, ahead, text.length());
        call("fault");
        call("many", 0);
        for (int p = 0; p < plain.many(1) && random.nextInt(8) > 0; p++) {
            call("lay", p, someSet(Math.max(1, plain.many(0))));
        }
    }

    private String someText() {
        StringBuilder text = new StringBuilder();
        int items = random.nextInt(12) == 0 ? 11 : 1 + random.nextInt(random.nextBoolean() ? 10 : 5);
        for (int item = 0; item < items && text.length() < 52; item++) {
            text.append(item == 0 ? "" : ";").append("pdx".charAt(random.nextInt(3)));
            text.append(random.nextInt(random.nextInt(4) == 0 ? 1000 : 10));
            while (item > 0 && items < 9 && random.nextInt(3) > 0 && text.length() < 52) {
                text.append('>').append(random.nextInt(item));
            }
        }
        if (random.nextInt(3) == 0) {
            text.setCharAt(random.nextInt(text.length()), "pdx;>0123456789?\u00e9".charAt(random.nextInt(17)));
        }
        if (random.nextInt(6) == 0) {
            text.setLength(random.nextInt(text.length() + 1));
        }
        return text.toString();
    }

    private void call(String name, Object... numbers) {
        if (calls >= CALLS) {
            return;
        }
        calls++;
        long want = answerOf(PLAIN, plain, name, numbers);
        long got = answerOf(REAL, real, name, numbers);
        check.due("run " + run + ", call " + calls + ": " + name + List.of(numbers), want, got);
    }

    private static long answerOf(Map<String, Method> methods, Object of, String name, Object[] numbers) {
        try {
            return ((Number) methods.get(name).invoke(of, numbers)).longValue();
        } catch (IllegalAccessException | InvocationTargetException failed) {
            throw new IllegalStateException(name + new ArrayList<>(List.of(numbers)), failed);
        }
    }
}

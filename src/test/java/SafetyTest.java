import java.lang.reflect.InvocationTargetException;
import java.lang.reflect.Method;
import java.lang.reflect.Modifier;
import java.util.ArrayList;
import java.util.Arrays;
import java.util.Comparator;
import java.util.List;
import java.util.Random;

/**
 * No call throws, whatever its numbers; the same calls give the same answers; a refusal or a FAULT
 * changes nothing but fault().
 */
public final class SafetyTest {
    private static final int RUNS = 300, CALLS = 512;
    private static final int[] WILD = {Integer.MIN_VALUE, Integer.MIN_VALUE + 1, -1000, -10, -3, -2, -1, 61, 64, 100,
        999, 1000, 1023, 1024, 4095, 4096, 9999, 10000, Integer.MAX_VALUE - 1, Integer.MAX_VALUE};

    private final Check check = new Check();
    private final List<Method> calls = new ArrayList<>();

    private SafetyTest() {
        for (Method method : ShakyScreens.class.getDeclaredMethods()) {
            if (Modifier.isPublic(method.getModifiers())) {
                calls.add(method);
            }
        }
        calls.sort(Comparator.comparing(Method::getName));
    }

    public static void main(String[] args) throws IllegalAccessException {
        SafetyTest test = new SafetyTest();
        for (int run = 0; run < RUNS && test.check.wrongOnes() < 20; run++) {
            test.go(new Random(31L * run + 5));
        }
        test.check.end();
    }

    private void go(Random random) throws IllegalAccessException {
        ShakyScreens first = begun();
        ShakyScreens second = begun();
        for (int k = 100; k < CALLS; k++) {
            Method call = calls.get(random.nextInt(calls.size()));
            Object[] numbers = new Object[call.getParameterCount()];
            for (int i = 0; i < numbers.length; i++) {
                numbers[i] = random.nextInt(4) == 0 ? WILD[random.nextInt(WILD.length)] : random.nextInt(12);
            }
            String told = call.getName() + Arrays.toString(numbers);
            if (k % 8 == 0) {
                // Both are looked at, so that both have had the same calls.
                List<Long> before = stateOf(first);
                stateOf(second);
                long answer = dueTwice(told, call, first, second, numbers);
                List<Long> after = stateOf(first);
                stateOf(second);
                if (changesNothing(call.getName(), answer)) {
                    check.holds(told + " answered " + answer + " and changed nothing", before.equals(after));
                }
            } else {
                dueTwice(told, call, first, second, numbers);
            }
        }
    }

    private long dueTwice(String told, Method call, ShakyScreens first, ShakyScreens second, Object[] numbers)
            throws IllegalAccessException {
        long answer = answerOf(call, first, numbers);
        check.due("the same calls: " + told, answer, answerOf(call, second, numbers));
        return answer;
    }

    /** NONE is no refusal: a press for none has its TICK, and leave() tells by it what was. */
    private static boolean changesNothing(String name, long answer) {
        boolean mayChange = answer == ShakyScreens.NONE && (name.equals("press") || name.equals("leave"));
        return answer < 0 && !mayChange;
    }

    private static ShakyScreens begun() {
        ShakyScreens s = Texts.screens("p5;d3>0;x9>1>0;p4;d2>3;x7", 3);
        s.sheet(0, 0, 9);
        s.sheet(1, 1, 12);
        s.lay(0, 7);
        s.lay(0, 31);
        s.lay(1, 36);
        s.press(1, 5, 5, 0);
        s.trial(0, 5, 3);
        s.leave(0, 1, 0, 50);
        return s;
    }

    private long answerOf(Method call, ShakyScreens of, Object[] numbers) throws IllegalAccessException {
        try {
            return ((Number) call.invoke(of, numbers)).longValue();
        } catch (InvocationTargetException thrown) {
            check.holds(call.getName() + Arrays.toString(numbers) + " threw " + thrown.getCause(), false);
            return 0;
        }
    }

    /** All that can be read without a change, but for fault(), which reading cells sets. */
    private static List<Long> stateOf(ShakyScreens s) {
        List<Long> state = new ArrayList<>();
        state.add((long) s.many(0));
        state.add((long) s.many(1));
        state.add((long) s.trace());
        for (int a = 0; a < 10; a++) {
            state.add((long) s.part(a, 0));
            state.add((long) s.part(a, 1));
            for (int b = 0; b < 10; b++) {
                state.add((long) s.follows(a, b));
            }
        }
        for (int p = 0; p < 4; p++) {
            addStateOf(s, p, state);
        }
        for (int k = 0; k < 4; k++) {
            for (int i = 0; i < 60; i++) {
                for (int lane = 0; lane < 3; lane++) {
                    state.add(s.cell(k, i, lane));
                }
            }
        }
        return state;
    }

    private static void addStateOf(ShakyScreens s, int p, List<Long> state) {
        state.add((long) s.price(p));
        state.add((long) s.asked(p));
        state.add(s.odds(p, 0));
        state.add(s.odds(p, 1));
        for (int place = 0; place < 12; place++) {
            state.add((long) s.at(p, place));
        }
        for (int error = 0; error < 3; error++) {
            state.add((long) s.counted(p, error));
        }
        state.add(s.worse(p, 0));
        state.add(s.worse(p, 1));
        for (int q = 0; q < 4; q++) {
            for (int tick = 0; tick < 12; tick++) {
                state.add((long) s.see(q, p, 0, tick));
                state.add((long) s.told(q, p, 5, tick));
            }
        }
    }
}

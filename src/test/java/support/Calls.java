import java.lang.reflect.InvocationTargetException;
import java.lang.reflect.Method;
import java.lang.reflect.Modifier;
import java.util.HashMap;
import java.util.Map;

/** Makes a call that is told as a line, such as "press 0 5 5 1", so that a test can be a table of lines. */
final class Calls {
    private static final Map<String, Method> BY_NAME = new HashMap<>();

    static {
        for (Method method : ShakyScreens.class.getDeclaredMethods()) {
            if (Modifier.isPublic(method.getModifiers())) {
                BY_NAME.put(method.getName(), method);
            }
        }
    }

    static long answer(ShakyScreens of, String line) {
        String[] words = line.split(" ");
        Object[] numbers = new Object[words.length - 1];
        for (int k = 0; k < numbers.length; k++) {
            numbers[k] = numberOf(words[k + 1]);
        }
        try {
            return ((Number) BY_NAME.get(words[0]).invoke(of, numbers)).longValue();
        } catch (IllegalAccessException | InvocationTargetException failed) {
            throw new IllegalStateException(line, failed);
        }
    }

    static String nameOf(String line) {
        return line.split(" ")[0];
    }

    private static int numberOf(String word) {
        switch (word) {
            case "MIN":
                return Integer.MIN_VALUE;
            case "MAX":
                return Integer.MAX_VALUE;
            default:
                return Integer.parseInt(word);
        }
    }

    private Calls() {
    }
}

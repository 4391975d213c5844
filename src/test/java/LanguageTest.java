import java.io.IOException;
import java.lang.reflect.Constructor;
import java.lang.reflect.Field;
import java.lang.reflect.Method;
import java.lang.reflect.Modifier;
import java.nio.file.Files;
import java.nio.file.Path;
import java.util.HashSet;
import java.util.Set;
import java.util.TreeSet;
import java.util.regex.Matcher;
import java.util.regex.Pattern;

/** The face stands as the document tells it, and the source keeps to LANGUAGE.md where a test can see it. */
public final class LanguageTest {
    private static final Path SOURCE = Path.of("src/main/java/ShakyScreens.java");
    private static final Path DOCUMENT = Path.of("../shared/DOC.md");
    private static final String[] FORBIDDEN = {"throw", "throws", "try", "catch", "finally", "synchronized", "assert",
        "package", "native", "volatile", "transient", "->", "::", "@", "NaN", "Exact", "hashCode", "toString",
        "Random", "Thread", "System.out", "System.nano", "System.current", "getClass", "protected", "equals"};
    private static final int MOST_LINES = 60, MOST_PARAMETERS = 7, MOST_CLASSES = 12, MOST_FIELDS = 20;

    private final Check check = new Check();
    private final String source;

    private LanguageTest() throws IOException {
        String whole = Files.readString(SOURCE);
        source = whole.replaceAll("(?s)/\\*.*?\\*/", "").replaceAll("//[^\n]*", "");
    }

    public static void main(String[] args) throws IOException {
        LanguageTest test = new LanguageTest();
        test.faceIsTheDocuments();
        test.constants();
        test.onlyTheLibraryThatIsListed();
        test.classesInside();
        test.methodsStayShort();
        test.check.end();
    }

    private void faceIsTheDocuments() throws IOException {
        Set<String> want = new TreeSet<>();
        Matcher line = Pattern.compile("public (int|long) (\\w+)\\(([^)]*)\\);").matcher(Files.readString(DOCUMENT));
        while (line.find()) {
            int parameters = line.group(3).isEmpty() ? 0 : line.group(3).split(",").length;
            want.add(line.group(1) + " " + line.group(2) + " " + parameters);
        }
        check.due("methods of the document", 39, want.size());
        Set<String> got = new TreeSet<>();
        Set<String> hidden = new HashSet<>();
        for (Method method : ShakyScreens.class.getDeclaredMethods()) {
            if (Modifier.isPublic(method.getModifiers())) {
                check.holds(method + " is no static one", !Modifier.isStatic(method.getModifiers()));
                got.add(method.getReturnType() + " " + method.getName() + " " + method.getParameterCount());
            } else {
                check.holds(method + " is private", Modifier.isPrivate(method.getModifiers()));
                hidden.add(method.getName());
            }
        }
        check.holds("the face " + got + " is " + want, got.equals(want));
        for (Method method : ShakyScreens.class.getDeclaredMethods()) {
            boolean ofTheFace = Modifier.isPublic(method.getModifiers());
            check.holds(method + " has a name of its own", !ofTheFace || !hidden.contains(method.getName()));
        }
        check.holds("final", Modifier.isFinal(ShakyScreens.class.getModifiers()));
        Constructor<?>[] constructors = ShakyScreens.class.getDeclaredConstructors();
        check.due("one constructor", 1, constructors.length);
        check.due("without numbers", 0, constructors[0].getParameterCount());
    }

    private void constants() {
        check.due("UNKNOWN", -1, ShakyScreens.UNKNOWN);
        check.due("OUTSIDE", -2, ShakyScreens.OUTSIDE);
        check.due("STATE", -3, ShakyScreens.STATE);
        check.due("FULL", -4, ShakyScreens.FULL);
        check.due("NONE", -9, ShakyScreens.NONE);
        check.due("LOST", Long.MIN_VALUE, ShakyScreens.LOST);
        int open = 0;
        for (Field field : ShakyScreens.class.getDeclaredFields()) {
            open += Modifier.isPrivate(field.getModifiers()) ? 0 : 1;
        }
        check.due("public fields", 6, open);
    }

    private void onlyTheLibraryThatIsListed() {
        for (String word : FORBIDDEN) {
            boolean plainWord = word.matches("[a-z]+");
            Pattern pattern = Pattern.compile(plainWord ? "\\b" + word + "\\b" : Pattern.quote(word));
            check.holds("no " + word, !pattern.matcher(source).find());
        }
        Set<String> imports = found("import ([\\w.]+);");
        check.holds("imports " + imports, Set.of("java.util.Arrays", "java.util.ArrayList", "java.util.List")
                .containsAll(imports));
        check.holds("calls of Arrays", Set.of("fill", "copyOf", "copyOfRange").containsAll(found("\\bArrays\\.(\\w+)\\(")));
        check.holds("calls of Math", Set.of("abs", "max", "min", "floorDiv", "floorMod")
                .containsAll(found("\\bMath\\.(\\w+)\\(")));
        check.holds("calls of System", Set.of("arraycopy").containsAll(found("\\bSystem\\.(\\w+)\\(")));
        check.holds("only signs of ASCII", source.chars().allMatch(sign -> sign < 127));
    }

    private void classesInside() {
        Class<?>[] inside = ShakyScreens.class.getDeclaredClasses();
        check.holds("so many classes", inside.length < MOST_CLASSES);
        for (Class<?> one : inside) {
            check.holds(one + " is static", Modifier.isStatic(one.getModifiers()));
            check.holds(one + " is private", Modifier.isPrivate(one.getModifiers()));
            checkFields(one);
        }
        checkFields(ShakyScreens.class);
    }

    private void checkFields(Class<?> of) {
        int many = 0;
        for (Field field : of.getDeclaredFields()) {
            if (Modifier.isStatic(field.getModifiers())) {
                check.holds(field + " is final", Modifier.isFinal(field.getModifiers()));
            } else {
                many++;
            }
        }
        check.holds("fields of " + of, many <= MOST_FIELDS);
        for (Method method : of.getDeclaredMethods()) {
            check.holds("parameters of " + method, method.getParameterCount() <= MOST_PARAMETERS);
        }
    }

    /** A method ends at the next line that closes a block at its own depth. */
    private void methodsStayShort() {
        String[] lines = source.split("\n");
        for (int k = 0; k < lines.length; k++) {
            if (lines[k].matches("( {4}| {8})[a-zA-Z].*\\).* \\{") && !lines[k].matches(" *(if|for|while|switch|do).*")) {
                String close = lines[k].replaceAll("\\S.*", "") + "}";
                int end = k;
                while (end < lines.length && !lines[end].equals(close)) {
                    end++;
                }
                check.holds("lines of " + lines[k].trim(), end - k < MOST_LINES);
            }
        }
    }

    private Set<String> found(String pattern) {
        Set<String> found = new TreeSet<>();
        Matcher matcher = Pattern.compile(pattern).matcher(source);
        while (matcher.find()) {
            found.add(matcher.group(1));
        }
        return found;
    }
}

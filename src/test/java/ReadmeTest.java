import java.io.IOException;
import java.nio.file.Files;
import java.nio.file.Path;
import java.util.ArrayList;
import java.util.Collections;
import java.util.List;
import java.util.regex.Matcher;
import java.util.regex.Pattern;
import java.util.stream.Stream;

/** README.md tells every call and every answer below 0, and its example and commands work as they stand there. */
public final class ReadmeTest {
    private static final Path DOCUMENT = Path.of("../shared/DOC.md");
    private static final Path EXAMPLE = Path.of("example/FirstScreen.java");
    private static final String WHOLE_RUN = ".ci/run\n";

    private final Check check = new Check();
    private final String page;

    private ReadmeTest() throws IOException {
        page = Files.readString(Path.of("README.md"));
    }

    public static void main(String[] args) throws IOException, InterruptedException {
        ReadmeTest test = new ReadmeTest();
        test.everyCallIsTold();
        test.everyAnswerBelowNothingIsTold();
        test.everyTestIsTold();
        test.exampleIsTheFile();
        test.commandsWork();
        test.check.end();
    }

    private void everyCallIsTold() throws IOException {
        Matcher call = Pattern.compile("public (?:int|long) (\\w+)\\(([^)]*)\\);").matcher(Files.readString(DOCUMENT));
        int calls = 0;
        while (call.find()) {
            String line = call.group(1) + "(" + call.group(2).replaceAll("\\bint ", "") + ")";
            check.holds("README.md has a row for " + line, page.contains("\n| `" + line + "` | "));
            calls++;
        }
        check.due("calls of the document", 39, calls);
        check.holds("how to make one", page.contains("`new ShakyScreens()`"));
    }

    private void everyAnswerBelowNothingIsTold() {
        tells("| " + ShakyScreens.UNKNOWN + " `UNKNOWN` |");
        tells("| " + ShakyScreens.OUTSIDE + " `OUTSIDE` |");
        tells("| " + ShakyScreens.STATE + " `STATE` |");
        tells("| " + ShakyScreens.FULL + " `FULL` |");
        tells("| " + ShakyScreens.NONE + " `NONE` |");
        tells("| -11 | FAULT 1, NULL");
        tells("| -12 | FAULT 2, CAST");
        tells("| -13 | FAULT 3, INDEX");
        tells("| -14 | FAULT 4, SIZE");
        tells("| -100 and below, of `text` |");
        check.due("LOST", Long.MIN_VALUE, ShakyScreens.LOST);
        tells("| `LOST` (`Long.MIN_VALUE`), of `worse`, `odds`, `cell` |");
    }

    private void everyTestIsTold() throws IOException {
        for (Path file : filesIn(Path.of("src/test/java"))) {
            String name = file.getFileName().toString();
            if (name.endsWith("Test.java")) {
                tells("| `" + name.replace(".java", "") + "` | ");
            }
        }
    }

    private void exampleIsTheFile() throws IOException {
        List<String> programs = blocks("java");
        check.due("programs", 1, programs.size());
        check.holds("the program is " + EXAMPLE, programs.contains(Files.readString(EXAMPLE)));
    }

    /** In a folder with nothing but what is kept in the project, as on a fresh checkout. */
    private void commandsWork() throws IOException, InterruptedException {
        Path fresh = Files.createTempDirectory("readme");
        copyInto(Path.of("src"), fresh);
        copyInto(Path.of("example"), fresh);
        List<String> commands = blocks("sh");
        check.due("blocks of commands", 3, commands.size());
        check.holds("the whole run is told", commands.remove(WHOLE_RUN));
        check.holds("the whole run can be started", Files.isExecutable(Path.of(WHOLE_RUN.trim())));
        String printed = "";
        for (String block : commands) {
            printed += ran(block, fresh);
        }
        check.due("blocks of what is printed", 1, blocks("text").size());
        check.holds("the example printed what is told, not " + printed, printed.startsWith(blocks("text").get(0)));
        for (Path file : filesIn(fresh)) {
            Files.delete(file);
        }
    }

    private String ran(String block, Path folder) throws IOException, InterruptedException {
        Process process = new ProcessBuilder("sh", "-ec", block).directory(folder.toFile())
                .redirectErrorStream(true).start();
        process.getOutputStream().close();
        String printed = new String(process.getInputStream().readAllBytes());
        check.due(block + printed, 0, process.waitFor());
        return printed;
    }

    private void tells(String words) {
        check.holds("README.md tells " + words, page.contains("\n" + words));
    }

    /** What stands between the lines ```kind and ```. */
    private List<String> blocks(String kind) {
        List<String> found = new ArrayList<>();
        Matcher block = Pattern.compile("(?sm)^```" + kind + "\n(.*?)^```$").matcher(page);
        while (block.find()) {
            found.add(block.group(1));
        }
        return found;
    }

    private static void copyInto(Path from, Path folder) throws IOException {
        List<Path> files = filesIn(from);
        for (int k = files.size() - 1; k >= 0; k--) {
            Files.copy(files.get(k), folder.resolve(files.get(k).toString()));
        }
    }

    /** Folders behind what lies in them, so that the row can be deleted as it stands. */
    private static List<Path> filesIn(Path folder) throws IOException {
        try (Stream<Path> walk = Files.walk(folder)) {
            List<Path> files = new ArrayList<>(walk.toList());
            Collections.reverse(files);
            return files;
        }
    }
}

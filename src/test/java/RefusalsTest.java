import java.util.List;
import java.util.Set;

/**
 * Every way in which a call is refused: just beyond each bound, and, where several refusals or FAULTS meet
 * in one call, the one that the document puts first; none of them changes anything but fault().
 */
public final class RefusalsTest {
    private static final int UNKNOWN = -1, OUTSIDE = -2, STATE = -3, FULL = -4, NONE = -9;
    private static final int NULL = -11, CAST = -12, INDEX = -13, SIZE = -14;
    private static final long LOST = Long.MIN_VALUE;
    private static final Set<String> NAME_FAULTS = Set.of("text", "sheet", "put", "cell", "copy", "as");

    private final Check check = new Check();
    private int persons = 3;

    public static void main(String[] args) {
        RefusalsTest test = new RefusalsTest();
        test.allIsToldOfTheState();
        test.promise2Text();
        test.promises3To6Parts();
        test.promises7And8Persons();
        test.promises9To11Layings();
        test.promises12To14Layings();
        test.promises15And16Ways();
        test.promises17To20Presses();
        test.promises21To24Learnt();
        test.promises25And26Trials();
        test.promises27To29Leave();
        test.promises30To32Sheets();
        test.promise33Cell();
        test.promise34Copy();
        test.promises35To40();
        test.readingChangesNothing();
        test.check.end();
    }

    /** The answer is due, nothing but fault() is changed, and fault() is as due. */
    private void dueAndNothingChanged(String call, long answer, int fault) {
        int[] ticks = {Begun.LAST_TICK_WITHIN_PAUSE, Begun.FIRST_TICK_BEYOND_PAUSE};
        for (int tick : ticks) {
            ShakyScreens s = Begun.screens(persons);
            check.due(call, answer, Calls.answer(s, call));
            check.due("fault() behind " + call, fault, s.fault());
            List<Long> due = Begun.toldOf(Begun.screens(persons), tick);
            check.holds(call + " changes nothing", Begun.toldOf(s, tick).equals(due));
        }
    }

    private void refused(int answer, String... calls) {
        for (String call : calls) {
            dueAndNothingChanged(call, answer, NAME_FAULTS.contains(Calls.nameOf(call)) ? 0 : 1);
        }
    }

    /** No refusals, yet they change nothing either. */
    private void unchanged(int answer, String... calls) {
        refused(answer, calls);
    }

    private void faulted(int answer, String... calls) {
        for (String call : calls) {
            dueAndNothingChanged(call, answer, -10 - answer);
        }
    }

    private void lost(int fault, String... calls) {
        for (String call : calls) {
            dueAndNothingChanged(call, LOST, fault);
        }
    }

    /** Else "changes nothing" would say little: each of these does change what is told. */
    private void allIsToldOfTheState() {
        String[] changes = {
            "text 3 2 0 2", "wish 0 6", "follow 1 0 2", "can 0 0 0", "can 0 1 4095", "can 1 2 2",
            "lay 0 5", "offer 0 0", "back 0", "rule 0 3", "press 0 5 5 12", "press 0 25 5 12", "press 2 0 0 1",
            "press 0 39 29 13", "confirm 0 12", "undo 0", "trial 1 0 0", "leave 0 1 0 49", "leave 2 0 1 0",
            "sheet 0 0 9", "sheet 2 0 0", "lose 1", "put 0 8 0", "copy 1 0 1 1 11", "tell 0", "speak 0", "person"};
        for (String call : changes) {
            ShakyScreens s = Begun.screens(3);
            List<Long> before = Begun.toldOf(Begun.screens(3), Begun.LAST_TICK_WITHIN_PAUSE);
            check.holds(call + " is made", Calls.answer(s, call) >= 0 || call.startsWith("leave")
                    || call.startsWith("press"));
            check.holds(call + " can be told",
                    !Begun.toldOf(s, Begun.LAST_TICK_WITHIN_PAUSE).equals(before));
        }
        ShakyScreens s = Begun.screens(3);
        check.due("rule 1 5", 6, s.rule(1, 5));
        check.due("beyond a lesser PAUSE", 102, s.press(0, 25, 5, Begun.LAST_TICK_WITHIN_PAUSE));
        check.due("within PAUSE", 2, Begun.screens(3).press(0, 25, 5, Begun.LAST_TICK_WITHIN_PAUSE));
        check.due("beyond PAUSE", 102, Begun.screens(3).press(0, 25, 5, Begun.FIRST_TICK_BEYOND_PAUSE));
    }

    private void promise2Text() {
        refused(UNKNOWN, "text -1 0 0 1", "text 4 0 0 1", "text MIN 0 0 1", "text MAX 0 0 1", "text 4 3 0 1",
                "text 4 0 0 -1", "text 4 0 -1 1", "text -1 -1 -1 -1");
        refused(OUTSIDE, "text 0 -1 0 1", "text 0 3 0 1", "text 2 3 0 1", "text 2 -1 0 1", "text 0 3 0 -1",
                "text 0 3 -1 1", "text 0 MIN 0 1", "text 0 MAX 0 1");
        faulted(CAST, "text 0 1 0 1", "text 0 2 0 1", "text 1 0 0 1", "text 1 2 0 1", "text 3 0 0 1", "text 3 1 0 1",
                "text 0 1 0 -1", "text 0 1 -1 1", "text 0 1 10 0", "text 3 0 0 2");
        faulted(NULL, "text 2 0 0 1", "text 2 1 0 1", "text 2 2 0 1", "text 2 0 0 -1", "text 2 0 -1 0", "text 2 0 0 0");
        faulted(SIZE, "text 0 0 0 -1", "text 0 0 0 MIN", "text 0 0 -1 -1", "text 0 0 10 -1", "text 3 2 0 -1");
        faulted(INDEX, "text 0 0 -1 0", "text 0 0 10 0", "text 0 0 9 1", "text 0 0 0 10", "text 0 0 8 2",
                "text 0 0 MIN 0", "text 0 0 MAX 0", "text 0 0 MAX MAX", "text 0 0 1 MAX", "text 0 0 MIN MAX",
                "text 3 2 0 26", "text 3 2 -1 3", "text 1 1 -1 1");
        unchanged(-100, "text 0 0 0 0", "text 0 0 9 0", "text 0 0 0 9", "text 1 1 3 4");
        unchanged(-103, "text 3 2 0 3", "text 3 2 3 3");
    }

    private void promises3To6Parts() {
        refused(UNKNOWN, "part -1 0", "part 6 0", "part MIN 0", "part MAX 1", "part 6 2", "part -1 -1");
        refused(OUTSIDE, "part 0 -1", "part 0 2", "part 5 2", "part 5 MIN", "part 5 MAX");
        refused(UNKNOWN, "wish -1 5", "wish 6 5", "wish 6 1000", "wish -1 -1", "wish MIN 0", "wish MAX 0");
        refused(OUTSIDE, "wish 0 -1", "wish 0 1000", "wish 5 MIN", "wish 5 MAX");
        refused(UNKNOWN, "follows -1 0", "follows 0 -1", "follows 6 0", "follows 0 6", "follows 6 6", "follows -1 -1");
        refused(OUTSIDE, "follows 0 0", "follows 5 5");
        refused(UNKNOWN, "follow -1 0 1", "follow 0 -1 1", "follow 6 0 1", "follow 0 6 1", "follow 6 6 1",
                "follow -1 -1 1", "follow 6 0 100", "follow 0 6 -1", "follow 6 6 100");
        refused(OUTSIDE, "follow 0 1 -1", "follow 0 1 100", "follow 0 0 1", "follow 5 5 0", "follow 1 1 100",
                "follow 1 0 MIN", "follow 1 0 MAX");
    }

    private void promises7And8Persons() {
        persons = 4;
        refused(FULL, "person");
        refused(UNKNOWN, "can 4 0 1");
        persons = 3;
        refused(UNKNOWN, "can -1 0 0", "can 3 0 0", "can MIN 0 0", "can MAX 0 0", "can 3 3 0", "can 3 0 3", "can -1 -1 -1");
        refused(OUTSIDE, "can 0 -1 1", "can 0 3 1", "can 0 MIN 1", "can 0 MAX 1", "can 0 0 -1", "can 0 0 3",
                "can 0 1 -1", "can 0 1 4096", "can 0 1 MIN", "can 0 1 MAX", "can 0 2 0", "can 0 2 -1", "can 0 2 11");
    }

    private void promises9To11Layings() {
        refused(UNKNOWN, "best -1 1 -1", "best 3 1 -1", "best 0 1 -2", "best 0 1 6", "best 3 0 -1", "best 3 1 6",
                "best 0 0 6", "best 0 64 -2", "best 0 1 MIN", "best 0 1 MAX");
        refused(OUTSIDE, "best 0 0 -1", "best 0 0 0", "best 0 63 -1", "best 0 64 -1", "best 0 65 5",
                "best 0 -1 -1", "best 0 MIN -1", "best 0 MAX -1", "best 1 0 -1", "best 1 63 0");
        unchanged(NONE, "best 0 1 1", "best 1 3 -1", "best 1 3 0", "best 1 3 5", "best 0 31 -1");
        refused(UNKNOWN, "lay -1 1", "lay 3 1", "lay 3 0", "lay -1 63", "lay 3 64");
        refused(OUTSIDE, "lay 0 0", "lay 0 63", "lay 0 64", "lay 0 65", "lay 0 -1", "lay 0 MIN", "lay 0 MAX", "lay 1 63");
        unchanged(NONE, "lay 0 31", "lay 1 3", "lay 1 31");
        refused(UNKNOWN, "offer -1 0", "offer 3 0", "offer 3 -1", "offer 3 10000");
        refused(OUTSIDE, "offer 0 -1", "offer 0 10000", "offer 2 -1", "offer 2 10000", "offer 1 -1", "offer 0 MIN",
                "offer 0 MAX");
        refused(STATE, "offer 2 0", "offer 2 9999");
        unchanged(NONE, "offer 1 0", "offer 1 9999");
        unchanged(0, "offer 0 1", "offer 0 9999");
    }

    private void promises12To14Layings() {
        refused(UNKNOWN, "back -1", "back 3", "back MIN", "back MAX");
        refused(STATE, "back 1", "back 2");
        refused(UNKNOWN, "at -1 0", "at 3 0", "at 0 -1", "at 0 12", "at 3 12", "at 2 12", "at 0 MIN", "at 0 MAX");
        unchanged(NONE, "at 0 1", "at 0 11", "at 2 0", "at 2 11");
        refused(UNKNOWN, "price -1", "price 3", "price MIN", "price MAX");
        refused(STATE, "price 2");
    }

    private void promises15And16Ways() {
        refused(OUTSIDE, "ways 0 2 -1", "ways 64 2 -1", "ways 65 2 0", "ways -1 2 -1", "ways MIN 2 -1", "ways MAX 2 -1",
                "ways 1 1 -1", "ways 1 10 -1", "ways 1 MIN -1", "ways 1 MAX -1", "ways 0 2 6", "ways 64 2 -2",
                "ways 1 1 6", "ways 1 10 -2", "ways 0 1 6");
        refused(UNKNOWN, "ways 1 2 6", "ways 1 2 -2", "ways 63 9 6", "ways 63 9 MIN", "ways 63 9 MAX");
        unchanged(NONE, "ways 1 2 1", "ways 62 9 0", "ways 31 2 5");
        refused(UNKNOWN, "kept -1 1 1", "kept 3 1 1", "kept 3 0 1", "kept 3 1 0", "kept -1 64 10");
        refused(OUTSIDE, "kept 0 0 1", "kept 0 64 1", "kept 0 -1 1", "kept 0 MIN 1", "kept 0 MAX 1", "kept 0 1 0",
                "kept 0 1 10", "kept 0 1 MIN", "kept 0 1 MAX", "kept 0 0 0");
    }

    private void promises17To20Presses() {
        refused(OUTSIDE, "rule -1 0", "rule 2 0", "rule MIN 0", "rule MAX 0", "rule 0 -1", "rule 0 11", "rule 1 -1",
                "rule 1 100", "rule 0 MIN", "rule 1 MAX", "rule 2 11");
        refused(UNKNOWN, "press -1 5 5 50", "press 3 5 5 50", "press 3 40 5 50", "press 3 5 30 50", "press 3 5 5 -1",
                "press -1 -1 -1 -1");
        refused(OUTSIDE, "press 0 -1 5 50", "press 0 40 5 50", "press 0 5 -1 50", "press 0 5 30 50", "press 0 5 5 -1",
                "press 0 5 5 10000", "press 0 40 5 11", "press 0 5 30 11", "press 0 MIN 5 50", "press 0 MAX 5 50",
                "press 0 5 MIN 50", "press 0 5 MAX 50", "press 0 5 5 MIN", "press 0 5 5 MAX", "press 2 40 5 50");
        refused(STATE, "press 0 5 5 11", "press 0 5 5 0", "press 0 39 29 11", "press 0 25 5 9", "press 1 5 5 4");
        refused(UNKNOWN, "confirm -1 50", "confirm 3 50", "confirm 3 -1", "confirm 3 10000");
        refused(OUTSIDE, "confirm 0 -1", "confirm 0 10000", "confirm 1 -1", "confirm 2 10000", "confirm 0 MIN",
                "confirm 0 MAX");
        refused(STATE, "confirm 0 11", "confirm 0 0", "confirm 1 50", "confirm 1 0", "confirm 2 0", "confirm 2 9999");
        refused(UNKNOWN, "asked -1", "asked 3", "asked MIN", "asked MAX");
        unchanged(NONE, "asked 1", "asked 2");
    }

    private void promises21To24Learnt() {
        refused(UNKNOWN, "undo -1", "undo 3", "undo MIN", "undo MAX");
        refused(STATE, "undo 2");
        refused(UNKNOWN, "counted -1 0", "counted 3 0", "counted 3 3", "counted -1 -1");
        refused(OUTSIDE, "counted 0 -1", "counted 0 3", "counted 2 3", "counted 0 MIN", "counted 0 MAX");
        refused(UNKNOWN, "span -1 5", "span 3 5", "span 3 0", "span 3 11");
        refused(OUTSIDE, "span 0 0", "span 0 11", "span 2 0", "span 2 11", "span 0 MIN", "span 0 MAX");
        unchanged(NONE, "span 2 1", "span 2 10");
        lost(1, "worse -1 0", "worse 3 0", "worse 3 2", "worse 0 -1", "worse 0 2", "worse 0 MIN", "worse 0 MAX",
                "worse 2 0", "worse 2 1", "worse 2 2");
    }

    private void promises25And26Trials() {
        refused(UNKNOWN, "trial -1 0 0", "trial 3 0 0", "trial 3 100 0", "trial 3 0 -1");
        refused(OUTSIDE, "trial 1 -1 0", "trial 1 100 0", "trial 1 0 -1", "trial 1 0 100", "trial 1 MIN 0",
                "trial 1 0 MAX", "trial 0 100 0", "trial 0 -1 0", "trial 0 0 100", "trial 0 0 -1");
        refused(FULL, "trial 0 0 0", "trial 0 99 99");
        lost(1, "odds -1 0", "odds 3 0", "odds 3 2", "odds 0 -1", "odds 0 2", "odds 0 MIN", "odds 0 MAX",
                "odds 2 0", "odds 2 1", "odds 2 2");
    }

    private void promises27To29Leave() {
        refused(UNKNOWN, "leave -1 0 0 1", "leave 0 -1 0 1", "leave 3 0 0 1", "leave 0 3 0 1", "leave 3 3 0 1",
                "leave -1 -1 0 1", "leave 0 3 2 1", "leave 3 0 0 10000");
        refused(OUTSIDE, "leave 0 0 0 1", "leave 2 2 1 1", "leave 0 1 -1 1", "leave 0 1 2 1", "leave 0 1 0 -2",
                "leave 0 1 0 10000", "leave 0 1 1 MIN", "leave 0 1 1 MAX", "leave 0 1 MIN 1", "leave 0 1 MAX 1");
        refused(UNKNOWN, "see -1 0 0 0", "see 3 0 0 0", "see 0 -1 0 0", "see 0 3 0 0", "see 3 3 0 0", "see 1 0 -1 0",
                "see 1 0 12 0", "see 3 0 0 -1", "see 1 0 12 -1", "see 1 0 -1 10000", "see 2 0 12 0", "see 0 0 MIN 0",
                "see 0 0 MAX 0");
        refused(OUTSIDE, "see 1 0 0 -1", "see 1 0 0 10000", "see 0 0 0 -1", "see 0 0 0 10000", "see 2 0 0 -1",
                "see 2 0 0 10000", "see 0 0 0 MIN", "see 0 0 0 MAX");
        refused(STATE, "see 2 0 0 0", "see 1 0 0 51", "see 0 1 0 0", "see 1 2 0 0");
        unchanged(NONE, "see 1 0 1 50", "see 2 2 0 0");
        refused(UNKNOWN, "told -1 0 5 0", "told 3 0 5 0", "told 0 -1 5 0", "told 0 3 5 0", "told 3 3 5 0",
                "told 3 0 0 0", "told 0 3 5 -1");
        refused(OUTSIDE, "told 1 0 0 0", "told 1 0 11 0", "told 1 0 5 -1", "told 1 0 5 10000", "told 2 0 0 0",
                "told 2 0 11 0", "told 2 0 5 -1", "told 2 0 5 10000", "told 0 0 MIN 0", "told 0 0 5 MAX");
        refused(STATE, "told 2 0 5 0", "told 0 1 5 1", "told 0 2 5 0", "told 1 2 10 9999");
        unchanged(NONE, "told 2 2 5 0", "told 2 2 1 9999");
    }

    private void promises30To32Sheets() {
        refused(UNKNOWN, "sheet -1 0 1", "sheet 4 0 1", "sheet 4 3 1", "sheet 4 0 61", "sheet 4 0 -1", "sheet MIN 0 0",
                "sheet MAX 0 0");
        refused(OUTSIDE, "sheet 0 -1 1", "sheet 0 3 1", "sheet 0 0 61", "sheet 0 0 MAX", "sheet 0 3 -1", "sheet 0 -1 -1",
                "sheet 2 3 1", "sheet 0 MIN 1", "sheet 0 MAX 1");
        faulted(SIZE, "sheet 0 0 -1", "sheet 1 2 -1", "sheet 2 1 -1", "sheet 0 0 MIN");
        refused(UNKNOWN, "lose -1", "lose 4", "lose MIN", "lose MAX");
        unchanged(0, "lose 2");
        refused(UNKNOWN, "put -1 0 1", "put 4 0 1", "put 4 -1 1", "put -1 60 1", "put MIN 0 1", "put MAX 0 1");
        faulted(NULL, "put 2 0 1", "put 2 -1 1", "put 2 60 1");
        faulted(INDEX, "put 0 -1 1", "put 0 9 1", "put 1 12 1", "put 3 25 1", "put 0 MIN 1", "put 0 MAX 1");
    }

    private void promise33Cell() {
        lost(0, "cell -1 0 0", "cell 4 0 0", "cell 4 0 3", "cell 4 -1 0", "cell MIN 0 0", "cell MAX 0 0");
        lost(0, "cell 0 0 -1", "cell 0 0 3", "cell 2 0 3", "cell 2 0 -1", "cell 0 9 3", "cell 0 0 MIN", "cell 0 0 MAX");
        lost(2, "cell 0 0 1", "cell 0 0 2", "cell 1 0 0", "cell 1 0 2", "cell 3 0 0", "cell 3 0 1", "cell 0 9 1",
                "cell 0 -1 2");
        lost(1, "cell 2 0 0", "cell 2 0 1", "cell 2 0 2", "cell 2 -1 0", "cell 2 60 2");
        lost(3, "cell 0 -1 0", "cell 0 9 0", "cell 1 12 1", "cell 3 25 2", "cell 0 MIN 0", "cell 0 MAX 0");
    }

    private void promise34Copy() {
        refused(UNKNOWN, "copy -1 0 0 0 1", "copy 4 0 0 0 1", "copy 0 0 -1 0 1", "copy 0 0 4 0 1", "copy 2 0 4 0 1",
                "copy 4 0 2 0 1", "copy 4 0 0 0 -1", "copy 0 -1 4 0 1", "copy 4 0 4 0 0");
        faulted(NULL, "copy 2 0 0 0 1", "copy 0 0 2 0 1", "copy 2 0 2 0 1", "copy 2 0 2 0 0", "copy 2 -1 1 0 1",
                "copy 0 0 2 -1 1", "copy 0 0 2 0 -1", "copy 0 -1 2 0 1", "copy 2 0 0 10 0");
        faulted(CAST, "copy 0 0 1 0 1", "copy 1 0 0 0 1", "copy 0 0 3 0 0", "copy 3 0 1 0 1", "copy 0 -1 1 0 1",
                "copy 0 0 1 -1 1", "copy 0 0 1 0 -1", "copy 0 10 1 0 0");
        faulted(INDEX, "copy 0 -1 0 0 1", "copy 0 0 0 -1 1", "copy 0 0 0 0 -1", "copy 0 -1 0 0 0", "copy 0 0 0 -1 0",
                "copy 0 10 0 0 0", "copy 0 0 0 10 0", "copy 0 9 0 0 1", "copy 0 0 0 9 1", "copy 0 0 0 0 10",
                "copy 0 8 0 0 2", "copy 0 0 0 8 2", "copy 1 0 1 1 12", "copy 1 1 1 0 12", "copy 0 0 0 0 MIN",
                "copy 0 0 0 0 MAX", "copy 0 MAX 0 0 1", "copy 0 0 0 MAX 1", "copy 0 MAX 0 MAX MAX", "copy 0 MIN 0 0 MAX");
    }

    private void promises35To40() {
        refused(UNKNOWN, "tell -1", "tell 6", "tell MIN", "tell MAX");
        refused(UNKNOWN, "speak -1", "speak 6", "speak MIN", "speak MAX");
        refused(UNKNOWN, "as -1 0", "as 6 0", "as 6 3", "as -1 -1", "as MIN 0", "as MAX 0");
        refused(OUTSIDE, "as 0 -1", "as 0 3", "as 5 3", "as 5 MIN", "as 5 MAX");
        faulted(CAST, "as 0 1", "as 0 2", "as 1 2", "as 3 1", "as 3 2", "as 4 2");
        refused(OUTSIDE, "many -1", "many 2", "many MIN", "many MAX");
    }

    private void readingChangesNothing() {
        unchanged(5, "part 0 1");
        unchanged(1, "follows 2 0", "as 5 2", "as 0 0", "cell 0 0 0", "counted 0 1", "ways 1 2 0", "told 1 0 10 9999");
        unchanged(0, "at 0 0", "see 1 0 0 50", "best 0 1 -1", "best 0 1 0", "kept 0 63 9", "span 0 1");
        unchanged(2, "asked 0", "counted 0 0", "price 0");
        unchanged(6, "many 0");
        unchanged(3, "many 1");
    }
}

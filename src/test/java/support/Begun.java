import java.util.ArrayList;
import java.util.List;

/** An object in whose state every call can be refused in each of its ways, and all that can be told of it. */
final class Begun {
    /** PERSON 0's ASKED has TICK 9, its latest press TICK 12; PAUSE is 6. */
    static final int LAST_TICK_WITHIN_PAUSE = 15, FIRST_TICK_BEYOND_PAUSE = 16;

    private static final int[] CELLS = {9, 12, 0, 25};
    private static final String[] CALLS = {
        "rule 0 4", "rule 1 6", "can 0 0 1", "can 0 1 4093", "can 0 2 7", "lay 0 7", "lay 0 5",
        "press 0 5 5 1", "press 0 0 5 2", "press 0 5 5 3", "press 0 25 5 9", "press 0 39 29 12",
        "lay 1 10", "press 1 5 5 4", "press 1 4 19 5", "can 1 2 1",
        "trial 1 9 2", "trial 1 3 3", "trial 1 4 5", "leave 0 1 0 50", "leave 0 1 1 9999", "leave 1 0 1 0",
        "tell 2", "speak 1", "wish 3 8", "follow 0 5 12", "sheet 0 0 9", "sheet 1 1 12"};

    /** So many PERSONS (3 or 4); the PERSONS from 2 on have done nothing yet. The latest FAULT is NULL. */
    static ShakyScreens screens(int persons) {
        ShakyScreens s = Texts.screens("p5;d3>0;x9>1>0;p4;d2>3;x7", persons);
        for (String call : CALLS) {
            Calls.answer(s, call);
        }
        for (int k = 0; k < 10; k++) {
            s.trial(0, 7 * k, 9 * (9 - k));
        }
        for (int k = 0; k < 2; k++) {
            for (int i = 0; i < CELLS[k]; i++) {
                s.put(k, i, i + 1);
            }
        }
        s.put(2, 0, 0);
        return s;
    }

    /** Tells all of the state but fault(), and changes it in doing so; a danger is pressed at the TICK given. */
    static List<Long> toldOf(ShakyScreens s, int dangerTick) {
        List<Long> told = new ArrayList<>();
        told.add((long) s.trace());
        told.add((long) s.many(0));
        told.add((long) s.many(1));
        tellParts(s, told);
        for (int p = 0; p < 4; p++) {
            tellLayingAndPresses(s, p, told);
            tellTrialsAndLeave(s, p, told);
        }
        tellTicks(s, dangerTick, told);
        for (int p = 0; p < 4; p++) {
            tellWhatIsChangedByTelling(s, p, told);
        }
        told.add((long) s.rule(0, 5));
        told.add((long) s.rule(1, 10));
        for (int k = 0; k < 4; k++) {
            tellSheet(s, k, told);
        }
        return told;
    }

    private static void tellParts(ShakyScreens s, List<Long> told) {
        for (int a = 0; a < 6; a++) {
            told.add((long) s.part(a, 0));
            told.add((long) s.part(a, 1));
            for (int b = 0; b < 6; b++) {
                told.add((long) s.follows(a, b));
            }
        }
    }

    private static void tellLayingAndPresses(ShakyScreens s, int p, List<Long> told) {
        told.add((long) s.price(p));
        for (int place = 0; place < 12; place++) {
            told.add((long) s.at(p, place));
        }
        told.add((long) s.asked(p));
        for (int error = 0; error < 3; error++) {
            told.add((long) s.counted(p, error));
        }
    }

    private static void tellTrialsAndLeave(ShakyScreens s, int p, List<Long> told) {
        told.add(s.odds(p, 0));
        told.add(s.odds(p, 1));
        told.add((long) s.trial(p, 1, 2));
        for (int q = 0; q < 4; q++) {
            told.add((long) s.leave(p, q, 0, -1));
            told.add((long) s.leave(p, q, 1, -1));
        }
    }

    private static void tellTicks(ShakyScreens s, int dangerTick, List<Long> told) {
        int[] latest = {12, 5, 0, 0};
        for (int p = 0; p < 4; p++) {
            told.add((long) s.press(p, 39, 29, latest[p] - 1));
            told.add((long) s.press(p, 39, 29, latest[p]));
        }
        told.add((long) s.press(0, 25, 5, dangerTick));
    }

    private static void tellWhatIsChangedByTelling(ShakyScreens s, int p, List<Long> told) {
        told.add((long) s.confirm(p, 9999));
        for (int k = 0; k < 6; k++) {
            told.add((long) s.undo(p));
        }
        told.add((long) s.back(p));
        for (int place = 0; place < 12; place++) {
            told.add((long) s.at(p, place));
        }
        told.add((long) s.can(p, 0, 0));
        told.add((long) s.can(p, 1, 4095));
        told.add((long) s.can(p, 2, 10));
    }

    private static void tellSheet(ShakyScreens s, int k, List<Long> told) {
        for (int lane = 0; lane < 3; lane++) {
            told.add(s.cell(k, 0, lane));
        }
        int lane = k == 3 ? 2 : k;
        for (int i = 0; i <= CELLS[k]; i++) {
            told.add(s.cell(k, i, lane));
        }
        told.add((long) s.lose(k));
    }

    private Begun() {
    }
}

import java.math.BigInteger;
import java.util.ArrayList;
import java.util.Arrays;
import java.util.Collections;
import java.util.Comparator;
import java.util.HashMap;
import java.util.List;
import java.util.Map;
import java.util.TreeMap;
import java.util.regex.Matcher;
import java.util.regex.Pattern;

/**
 * The document once more, by other means: lists and maps, every LAYING and every way of sides tried,
 * and FAULTS that the Java machine itself throws. Slow, and only for comparing answers.
 */
final class PlainModel {
    private static final int UNKNOWN = -1, OUTSIDE = -2, STATE = -3, FULL = -4, NONE = -9;
    private static final long LOST = Long.MIN_VALUE;
    private static final String ITEM = "[pdx][0-9]{1,3}(>[0-9])*";
    private static final Pattern TEXT = Pattern.compile(ITEM + "(;" + ITEM + "){0,9}");

    private interface Spoken {
        int number();

        void mark(int body);

        default int spoken() {
            mark(4);
            return number();
        }
    }

    private class Part implements Spoken {
        final int number;
        int wishes;

        Part(int number, int wishes) {
            this.number = number;
            this.wishes = wishes;
        }

        @Override
        public int number() {
            return number;
        }

        @Override
        public void mark(int body) {
            trace = trace * 31 + body;
        }

        final int plain() {
            mark(1);
            return wishes;
        }

        int telling() {
            return plain();
        }
    }

    private class Deed extends Part {
        Deed(int number, int wishes) {
            super(number, wishes);
        }

        @Override
        int telling() {
            mark(2);
            return super.telling() + 1000;
        }
    }

    private final class Danger extends Deed {
        Danger(int number, int wishes) {
            super(number, wishes);
        }

        @Override
        int telling() {
            mark(3);
            int deeds = super.telling();
            return deeds + plain();
        }

        @Override
        public int spoken() {
            mark(5);
            return 99;
        }
    }

    private static final class Human {
        int wide = 0;
        int reach = 4095;
        int hold = 10;
        /** PLACES by PARTS. */
        TreeMap<Integer, Integer> laying = null;
        TreeMap<Integer, Integer> old = null;
        int tick = 0;
        int[] asked = null;
        final List<Integer> everTaken = new ArrayList<>();
        final List<Integer> last = new ArrayList<>();
        final List<int[]> trials = new ArrayList<>();
        final Map<List<Integer>, Integer> leaves = new HashMap<>();
    }

    private List<Part> parts = new ArrayList<>();
    private Map<List<Integer>, Integer> follows = new HashMap<>();
    private final List<Human> humans = new ArrayList<>();
    private final Object[] sheets = new Object[4];
    private int sureness = 5;
    private int pause = 10;
    private int trace = 0;
    private int fault = 0;

    // ---- 1 parts

    int text(int sheet, int lane, int i, int n) {
        fault = 0;
        if (sheet < 0 || sheet > 3) {
            return UNKNOWN;
        }
        if (lane < 0 || lane > 2) {
            return OUTSIDE;
        }
        char[] codes;
        try {
            Object row = rowAs(sheets[sheet], lane);
            int length = java.lang.reflect.Array.getLength(row);
            codes = new char[Math.min(n, 60)]; // more than any SHEET has would only cost room
            if (i < 0 || i > length || (long) i + n > length) {
                throw new IndexOutOfBoundsException();
            }
            for (int k = 0; k < n; k++) {
                int code = java.lang.reflect.Array.getInt(row, i + k);
                codes[k] = code < 0 || code > 127 ? '?' : (char) code;
            }
        } catch (RuntimeException thrown) {
            return -10 - fault(thrown);
        }
        String text = new String(codes);
        int firstFault = firstFault(text);
        if (firstFault >= 0) {
            return -100 - firstFault;
        }
        takeText(text);
        return parts.size();
    }

    private static int firstFault(String text) {
        int item = 0;
        for (int k = 0; k < text.length(); k++) {
            Matcher upToHere = TEXT.matcher(text.substring(0, k + 1));
            if (!upToHere.matches() && !upToHere.hitEnd()) {
                return k;
            }
            if (text.charAt(k) == ';') {
                item++;
            }
            if (k > 0 && text.charAt(k - 1) == '>' && text.charAt(k) - '0' >= item) {
                return k;
            }
        }
        return TEXT.matcher(text).matches() ? -1 : text.length();
    }

    private void takeText(String text) {
        parts = new ArrayList<>();
        follows = new HashMap<>();
        for (String item : text.split(";")) {
            String[] pieces = item.split(">");
            int x = parts.size();
            int wishes = Integer.parseInt(pieces[0].substring(1));
            char letter = item.charAt(0);
            parts.add(letter == 'p' ? new Part(x, wishes)
                    : letter == 'd' ? new Deed(x, wishes) : new Danger(x, wishes));
            for (int k = 1; k < pieces.length; k++) {
                follows.merge(List.of(x, Integer.parseInt(pieces[k])), 1, Integer::sum);
            }
        }
        for (Human human : humans) {
            human.laying = null;
            human.old = null;
            human.asked = null;
        }
    }

    int part(int x, int what) {
        if (noPart(x)) {
            return UNKNOWN;
        }
        if (what == 0) {
            return parts.get(x) instanceof Danger ? 2 : parts.get(x) instanceof Deed ? 1 : 0;
        }
        return what == 1 ? parts.get(x).wishes : OUTSIDE;
    }

    int wish(int x, int n) {
        if (noPart(x)) {
            return UNKNOWN;
        }
        if (n < 0 || n > 999) {
            return OUTSIDE;
        }
        int was = parts.get(x).wishes;
        parts.get(x).wishes = n;
        return was;
    }

    int follows(int a, int b) {
        if (noPart(a) || noPart(b)) {
            return UNKNOWN;
        }
        return a == b ? OUTSIDE : follows.getOrDefault(List.of(a, b), 0);
    }

    int follow(int a, int b, int n) {
        if (noPart(a) || noPart(b)) {
            return UNKNOWN;
        }
        if (n < 0 || n > 99 || a == b) {
            return OUTSIDE;
        }
        Integer was = follows.put(List.of(a, b), n);
        return was == null ? 0 : was;
    }

    private boolean noPart(int x) {
        return x < 0 || x >= parts.size();
    }

    // ---- 2 layings

    int person() {
        if (humans.size() == 4) {
            return FULL;
        }
        humans.add(new Human());
        return humans.size() - 1;
    }

    private boolean noHuman(int p) {
        return p < 0 || p >= humans.size();
    }

    int can(int p, int what, int v) {
        if (noHuman(p)) {
            return UNKNOWN;
        }
        Human human = humans.get(p);
        int was = OUTSIDE;
        if (what == 0 && v >= 0 && v <= 2) {
            was = human.wide;
            human.wide = v;
        } else if (what == 1 && v >= 0 && v <= 4095) {
            was = human.reach;
            human.reach = v;
        } else if (what == 2 && v >= 1 && v <= 10) {
            was = human.hold;
            human.hold = v;
        }
        return was;
    }

    private List<Integer> members(int set) {
        List<Integer> members = new ArrayList<>();
        for (int k = 0; k < 32; k++) {
            if ((set & 1 << k) != 0) {
                members.add(k);
            }
        }
        return members;
    }

    private boolean noSet(int set, int most) {
        List<Integer> members = members(set);
        return members.isEmpty() || members.size() > most
                || members.get(members.size() - 1) >= parts.size();
    }

    private int priceOf(Map<Integer, Integer> laying) {
        int sum = 0;
        for (int a : laying.keySet()) {
            for (int b : laying.keySet()) {
                int dx = Math.abs(laying.get(a) % 4 - laying.get(b) % 4);
                int dy = Math.abs(laying.get(a) / 4 - laying.get(b) / 4);
                sum += follows.getOrDefault(List.of(a, b), 0) * (dx + dy);
            }
        }
        return sum;
    }

    private TreeMap<Integer, Integer> bestOf(Human human, int set) {
        List<Integer> members = members(set);
        if (members.size() > human.hold) {
            return null;
        }
        int n = members.size();
        int[][] both = new int[n][n];
        for (int a = 0; a < n; a++) {
            for (int b = 0; b < n; b++) {
                both[a][b] = follows.getOrDefault(List.of(members.get(a), members.get(b)), 0);
            }
        }
        int[][] best = new int[1][];
        tryAll(human, both, new int[n], 0, best);
        if (best[0] == null) {
            return null;
        }
        TreeMap<Integer, Integer> laying = new TreeMap<>();
        for (int k = 0; k < n; k++) {
            laying.put(members.get(k), best[0][k + 1]);
        }
        return laying;
    }

    /** Compares rows of a PRICE and the PLACES behind it, with no order of trying in mind. */
    private static void tryAll(Human human, int[][] both, int[] row, int k, int[][] best) {
        if (k == row.length) {
            int[] priced = new int[k + 1];
            System.arraycopy(row, 0, priced, 1, k);
            for (int a = 0; a < k; a++) {
                for (int b = 0; b < k; b++) {
                    priced[0] += both[a][b] * (Math.abs(row[a] % 4 - row[b] % 4)
                            + Math.abs(row[a] / 4 - row[b] / 4));
                }
            }
            if (best[0] == null || Arrays.compare(priced, best[0]) < 0) {
                best[0] = priced;
            }
            return;
        }
        for (int place = 11; place >= 0; place--) {
            boolean fits = (human.reach & 1 << place) != 0;
            for (int j = 0; j < k; j++) {
                int apart = Math.max(Math.abs(row[j] % 4 - place % 4), Math.abs(row[j] / 4 - place / 4));
                fits &= apart > human.wide;
            }
            if (fits) {
                row[k] = place;
                tryAll(human, both, row, k + 1, best);
            }
        }
    }

    int best(int p, int set, int x) {
        if (noHuman(p) || x != -1 && noPart(x)) {
            return UNKNOWN;
        }
        if (noSet(set, 5)) {
            return OUTSIDE;
        }
        TreeMap<Integer, Integer> best = bestOf(humans.get(p), set);
        if (best == null) {
            return NONE;
        }
        return x == -1 ? priceOf(best) : best.getOrDefault(x, NONE);
    }

    int lay(int p, int set) {
        if (noHuman(p)) {
            return UNKNOWN;
        }
        if (noSet(set, 5)) {
            return OUTSIDE;
        }
        TreeMap<Integer, Integer> best = bestOf(humans.get(p), set);
        if (best == null) {
            return NONE;
        }
        give(humans.get(p), best);
        return priceOf(best);
    }

    private static void give(Human human, TreeMap<Integer, Integer> laying) {
        human.old = human.laying;
        human.laying = laying;
        human.asked = null;
    }

    int offer(int p, int gain) {
        if (noHuman(p)) {
            return UNKNOWN;
        }
        if (gain < 0 || gain > 9999) {
            return OUTSIDE;
        }
        Human human = humans.get(p);
        if (human.laying == null) {
            return STATE;
        }
        int set = 0;
        for (int x : human.laying.keySet()) {
            set += 1 << x;
        }
        TreeMap<Integer, Integer> best = bestOf(human, set);
        if (best == null) {
            return NONE;
        }
        if (priceOf(best) + gain > priceOf(human.laying)) {
            return 0;
        }
        give(human, best);
        return 1;
    }

    int back(int p) {
        if (noHuman(p)) {
            return UNKNOWN;
        }
        if (humans.get(p).old == null) {
            return STATE;
        }
        give(humans.get(p), humans.get(p).old);
        return 1;
    }

    int at(int p, int place) {
        if (noHuman(p) || place < 0 || place > 11) {
            return UNKNOWN;
        }
        return partAt(humans.get(p), place);
    }

    private static int partAt(Human human, int place) {
        if (human.laying != null) {
            for (Map.Entry<Integer, Integer> laid : human.laying.entrySet()) {
                if (laid.getValue() == place) {
                    return laid.getKey();
                }
            }
        }
        return NONE;
    }

    int price(int p) {
        if (noHuman(p)) {
            return UNKNOWN;
        }
        return humans.get(p).laying == null ? STATE : priceOf(humans.get(p).laying);
    }

    // ---- 3 ways

    private static final class Node {
        final int weight;
        final int order;
        final int part;
        final List<Node> entries;

        Node(int weight, int order, int part, List<Node> entries) {
            this.weight = weight;
            this.order = order;
            this.part = part;
            this.entries = entries;
        }

        void steps(int depth, Map<Integer, Integer> into) {
            if (entries == null) {
                into.put(part, depth);
                return;
            }
            for (Node entry : entries) {
                entry.steps(depth + 1, into);
            }
        }
    }

    private Map<Integer, Integer> stepsOf(int set, int h) {
        List<Node> nodes = new ArrayList<>();
        int order = 0;
        for (int x : members(set)) {
            nodes.add(new Node(parts.get(x).wishes, order++, x, null));
        }
        int take = nodes.size() == 1 ? 1 : 2 + (nodes.size() - 2) % (h - 1);
        do {
            nodes.sort(Comparator.<Node>comparingInt(n -> n.weight).thenComparingInt(n -> n.order));
            List<Node> entries = new ArrayList<>(nodes.subList(0, take));
            nodes.removeAll(entries);
            nodes.add(new Node(entries.stream().mapToInt(n -> n.weight).sum(), order++, NONE, entries));
            take = h;
        } while (nodes.size() > 1);
        Map<Integer, Integer> steps = new HashMap<>();
        nodes.get(0).steps(0, steps);
        return steps;
    }

    int ways(int set, int h, int x) {
        if (noSet(set, 10) || h < 2 || h > 9) {
            return OUTSIDE;
        }
        if (x != -1 && noPart(x)) {
            return UNKNOWN;
        }
        Map<Integer, Integer> steps = stepsOf(set, h);
        if (x != -1) {
            return steps.getOrDefault(x, NONE);
        }
        return members(set).stream().mapToInt(k -> parts.get(k).wishes * steps.get(k)).sum();
    }

    int kept(int p, int set, int steps) {
        if (noHuman(p)) {
            return UNKNOWN;
        }
        if (noSet(set, 10) || steps < 1 || steps > 9) {
            return OUTSIDE;
        }
        int hold = humans.get(p).hold;
        Map<Integer, Integer> all = stepsOf(set, hold < 2 ? 2 : hold > 9 ? 9 : hold);
        return members(set).stream().filter(k -> parts.get(k) instanceof Deed && all.get(k) > steps)
                .mapToInt(k -> 1 << k).sum();
    }

    // ---- 4 presses

    int rule(int what, int v) {
        int was = OUTSIDE;
        if (what == 0 && v >= 0 && v <= 10) {
            was = sureness;
            sureness = v;
        } else if (what == 1 && v >= 0 && v <= 99) {
            was = pause;
            pause = v;
        }
        return was;
    }

    private static int errorOf(int place, int x, int y) {
        int dx = Math.abs(x - (10 * (place % 4) + 5));
        int dy = Math.abs(y - (10 * (place / 4) + 5));
        return Math.max(dx, dy) / 5;
    }

    int press(int p, int x, int y, int tick) {
        if (noHuman(p)) {
            return UNKNOWN;
        }
        if (x < 0 || x > 39 || y < 0 || y > 29 || tick < 0 || tick > 9999) {
            return OUTSIDE;
        }
        Human human = humans.get(p);
        if (tick < human.tick) {
            return STATE;
        }
        human.tick = tick;
        if (human.laying == null) {
            return NONE;
        }
        TreeMap<Integer, Integer> weights = new TreeMap<>();
        for (Map.Entry<Integer, Integer> laid : human.laying.entrySet()) {
            int error = errorOf(laid.getValue(), x, y);
            if (error <= 2) {
                int taken = Collections.frequency(human.everTaken, error);
                weights.put(laid.getKey(), (parts.get(laid.getKey()).wishes + 1) * (taken + 1));
            }
        }
        if (weights.isEmpty()) {
            return NONE;
        }
        int greatest = Collections.max(weights.values());
        int all = weights.values().stream().mapToInt(w -> w).sum();
        int meant = weights.keySet().stream().filter(k -> weights.get(k) == greatest).findFirst().get();
        int error = errorOf(human.laying.get(meant), x, y);
        boolean askAnyway = 10 * greatest < sureness * all;
        boolean askedOfIt = human.asked != null && human.asked[0] == meant
                && tick - human.asked[2] <= pause;
        if (askAnyway || parts.get(meant) instanceof Danger && !askedOfIt) {
            human.asked = new int[] {meant, error, tick};
            return 100 + meant;
        }
        taken(human, error);
        return meant;
    }

    private static void taken(Human human, int error) {
        human.asked = null;
        human.everTaken.add(error);
        human.last.add(error);
        if (human.last.size() > 12) {
            human.last.remove(0);
        }
    }

    int confirm(int p, int tick) {
        if (noHuman(p)) {
            return UNKNOWN;
        }
        if (tick < 0 || tick > 9999) {
            return OUTSIDE;
        }
        Human human = humans.get(p);
        if (human.asked == null || tick < human.tick) {
            return STATE;
        }
        int part = human.asked[0];
        human.tick = tick;
        taken(human, human.asked[1]);
        return part;
    }

    int asked(int p) {
        if (noHuman(p)) {
            return UNKNOWN;
        }
        return humans.get(p).asked == null ? NONE : humans.get(p).asked[0];
    }

    int undo(int p) {
        if (noHuman(p)) {
            return UNKNOWN;
        }
        Human human = humans.get(p);
        if (human.last.isEmpty()) {
            return STATE;
        }
        int error = human.last.remove(human.last.size() - 1);
        human.everTaken.remove(Integer.valueOf(error));
        return error;
    }

    int counted(int p, int error) {
        if (noHuman(p)) {
            return UNKNOWN;
        }
        return error < 0 || error > 2 ? OUTSIDE : Collections.frequency(humans.get(p).everTaken, error);
    }

    int span(int p, int tenths) {
        if (noHuman(p)) {
            return UNKNOWN;
        }
        return tenths < 1 || tenths > 10 ? OUTSIDE : spanOf(humans.get(p), tenths);
    }

    private static int spanOf(Human human, int tenths) {
        if (human.everTaken.isEmpty()) {
            return NONE;
        }
        int least = 0;
        while (true) {
            int upTo = least;
            long within = human.everTaken.stream().filter(e -> e <= upTo).count();
            if (10 * within >= (long) tenths * human.everTaken.size()) {
                return least;
            }
            least++;
        }
    }

    long worse(int p, int which) {
        if (noHuman(p) || which < 0 || which > 1) {
            return LOST;
        }
        List<Integer> last = humans.get(p).last;
        int unlike = 0;
        int greater = 0;
        for (int a = 0; a < last.size(); a++) {
            for (int b = a + 1; b < last.size(); b++) {
                unlike += last.get(a).intValue() != last.get(b) ? 1 : 0;
                greater += last.get(b) > last.get(a) ? 1 : 0;
            }
        }
        return unlike == 0 ? LOST : share(greater, unlike, which);
    }

    private static long share(long upper, long lower, int which) {
        long common = BigInteger.valueOf(upper).gcd(BigInteger.valueOf(lower)).longValue();
        return (which == 0 ? upper : lower) / common;
    }

    // ---- 5 trials, leave

    int trial(int p, int old, int now) {
        if (noHuman(p)) {
            return UNKNOWN;
        }
        if (old < 0 || old > 99 || now < 0 || now > 99) {
            return OUTSIDE;
        }
        List<int[]> trials = humans.get(p).trials;
        if (trials.size() == 10) {
            return FULL;
        }
        trials.add(new int[] {old, now});
        return trials.size();
    }

    long odds(int p, int which) {
        if (noHuman(p) || which < 0 || which > 1 || humans.get(p).trials.isEmpty()) {
            return LOST;
        }
        List<int[]> trials = humans.get(p).trials;
        int asItIs = lead(trials, 0);
        int asGreat = 0;
        for (int sides = 0; sides < 1 << trials.size(); sides++) {
            asGreat += lead(trials, sides) >= asItIs ? 1 : 0;
        }
        return share(asGreat, 1L << trials.size(), which);
    }

    private static int lead(List<int[]> trials, int sides) {
        int old = 0;
        int now = 0;
        for (int k = 0; k < trials.size(); k++) {
            int changed = sides >> k & 1;
            old += trials.get(k)[changed];
            now += trials.get(k)[1 - changed];
        }
        return old - now;
    }

    int leave(int p, int q, int what, int till) {
        if (noHuman(p) || noHuman(q)) {
            return UNKNOWN;
        }
        if (p == q || what < 0 || what > 1 || till < -1 || till > 9999) {
            return OUTSIDE;
        }
        Map<List<Integer>, Integer> leaves = humans.get(p).leaves;
        Integer was = till == -1 ? leaves.remove(List.of(q, what)) : leaves.put(List.of(q, what), till);
        return was == null ? NONE : was;
    }

    private boolean mayNot(int q, int p, int what, int tick) {
        Integer till = humans.get(p).leaves.get(List.of(q, what));
        return q != p && (till == null || tick > till);
    }

    int see(int q, int p, int place, int tick) {
        if (noHuman(q) || noHuman(p) || place < 0 || place > 11) {
            return UNKNOWN;
        }
        if (tick < 0 || tick > 9999) {
            return OUTSIDE;
        }
        return mayNot(q, p, 0, tick) ? STATE : partAt(humans.get(p), place);
    }

    int told(int q, int p, int tenths, int tick) {
        if (noHuman(q) || noHuman(p)) {
            return UNKNOWN;
        }
        if (tenths < 1 || tenths > 10 || tick < 0 || tick > 9999) {
            return OUTSIDE;
        }
        return mayNot(q, p, 1, tick) ? STATE : spanOf(humans.get(p), tenths);
    }

    // ---- 6 sheets, parts

    private static Object rowAs(Object row, int lane) {
        return lane == 0 ? (byte[]) row : lane == 1 ? (short[]) row : (Object) (int[]) row;
    }

    private int fault(RuntimeException thrown) {
        fault = thrown instanceof NullPointerException ? 1
                : thrown instanceof ClassCastException || thrown instanceof ArrayStoreException ? 2
                : thrown instanceof IndexOutOfBoundsException ? 3
                : thrown instanceof NegativeArraySizeException ? 4 : 99;
        return fault;
    }

    int sheet(int k, int lane, int n) {
        fault = 0;
        if (k < 0 || k > 3) {
            return UNKNOWN;
        }
        if (lane < 0 || lane > 2 || n > 60) {
            return OUTSIDE;
        }
        try {
            sheets[k] = lane == 0 ? new byte[n] : lane == 1 ? new short[n] : (Object) new int[n];
            return 1;
        } catch (RuntimeException thrown) {
            return -10 - fault(thrown);
        }
    }

    int lose(int k) {
        if (k < 0 || k > 3) {
            return UNKNOWN;
        }
        int had = sheets[k] != null ? 1 : 0;
        sheets[k] = null;
        return had;
    }

    int put(int k, int i, int v) {
        fault = 0;
        if (k < 0 || k > 3) {
            return UNKNOWN;
        }
        try {
            if (sheets[k] instanceof byte[]) {
                ((byte[]) sheets[k])[i] = (byte) v;
            } else if (sheets[k] instanceof short[]) {
                ((short[]) sheets[k])[i] = (short) v;
            } else {
                ((int[]) sheets[k])[i] = v;
            }
            return 1;
        } catch (RuntimeException thrown) {
            return -10 - fault(thrown);
        }
    }

    long cell(int k, int i, int lane) {
        fault = 0;
        if (k < 0 || k > 3 || lane < 0 || lane > 2) {
            return LOST;
        }
        try {
            Object row = rowAs(sheets[k], lane);
            return lane == 0 ? ((byte[]) row)[i] : lane == 1 ? ((short[]) row)[i] : ((int[]) row)[i];
        } catch (RuntimeException thrown) {
            fault(thrown);
            return LOST;
        }
    }

    int copy(int k, int i, int other, int j, int n) {
        fault = 0;
        if (k < 0 || k > 3 || other < 0 || other > 3) {
            return UNKNOWN;
        }
        try {
            System.arraycopy(sheets[k], i, sheets[other], j, n);
            return n;
        } catch (RuntimeException thrown) {
            return -10 - fault(thrown);
        }
    }

    int tell(int x) {
        return noPart(x) ? UNKNOWN : parts.get(x).telling();
    }

    int speak(int x) {
        return noPart(x) ? UNKNOWN : parts.get(x).spoken();
    }

    int as(int x, int kind) {
        fault = 0;
        if (noPart(x)) {
            return UNKNOWN;
        }
        if (kind < 0 || kind > 2) {
            return OUTSIDE;
        }
        try {
            Part taken = kind == 2 ? (Danger) parts.get(x) : kind == 1 ? (Deed) parts.get(x) : parts.get(x);
            return taken == null ? 0 : 1;
        } catch (RuntimeException thrown) {
            return -10 - fault(thrown);
        }
    }

    int trace() {
        return trace;
    }

    int fault() {
        return fault;
    }

    int many(int what) {
        return what == 0 ? parts.size() : what == 1 ? humans.size() : OUTSIDE;
    }
}

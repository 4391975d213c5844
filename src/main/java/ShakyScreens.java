import java.util.Arrays;

/**
 * Screens for hands that shake. The promises stand in ../shared/DOC.md; the words in capitals here
 * are that document's.
 */
public final class ShakyScreens {
    public static final int UNKNOWN = -1, OUTSIDE = -2, STATE = -3, FULL = -4, NONE = -9;
    public static final long LOST = Long.MIN_VALUE;

    private static final int NULL_FAULT = 1, CAST_FAULT = 2, INDEX_FAULT = 3, SIZE_FAULT = 4;
    private static final int FAULT_BASE = -10, TEXT_FAULT_BASE = -100, ASKED_BASE = 100;
    private static final int DEED = 1, DANGER = 2, KINDS = 3;
    private static final int BYTES = 0, SHORTS = 1, LANES = 3;
    private static final int MOST_PARTS = 10, MOST_PERSONS = 4, MOST_SHEETS = 4, MOST_CELLS = 60;
    private static final int MOST_WISHES = 999, MOST_FOLLOWS = 99, MOST_GAIN = 9999;
    private static final int COLUMNS = 4, PLACES = 12;
    private static final int PLACE_SIZE = 10, MOST_X = 39, MOST_Y = 29, ERROR_SIZE = 5;
    private static final int MOST_LAID = 5;
    private static final int WIDE = 0, REACH = 1, HOLD = 2, ABILITIES = 3, MOST_WIDE = 2;
    private static final int[] LEAST_ABLE = {0, 0, 1};
    private static final int[] MOST_ABLE = {MOST_WIDE, 4095, 10};
    private static final int LEAST_ENTRIES = 2, MOST_ENTRIES = 9, MOST_STEPS = 9;
    private static final int SURENESS = 0, PAUSE = 1, RULES = 2;
    private static final int[] MOST_RULED = {10, 99};
    private static final int TENTHS = 10, LAST_TICK = 9999;
    private static final int ERRORS = 3, MOST_LAST = 12;
    private static final int MOST_TRIALS = 10, MOST_RESULT = 99;
    private static final int LEAVES = 2, LEAVE_LAYING = 0, LEAVE_SPANS = 1, NO_LEAVE = -1;

    private final Parts parts = new Parts();
    private final Reader reader = new Reader();
    private final Person[] persons = new Person[MOST_PERSONS];
    private int personCount = 0;
    private final Seeker seeker = new Seeker();
    private final Menus menus = new Menus();
    private final int[] rules = new int[RULES];
    private final Sheet[] sheets = new Sheet[MOST_SHEETS];
    private int trace = 0;
    private int fault = 0;

    public ShakyScreens() {
        rules[SURENESS] = 5;
        rules[PAUSE] = 10;
        for (int p = 0; p < MOST_PERSONS; p++) {
            persons[p] = new Person();
        }
    }

    // ---- 1 parts

    public int text(int sheet, int lane, int i, int n) {
        fault = 0;
        if (!isWithin(sheet, 0, MOST_SHEETS - 1)) {
            return UNKNOWN;
        }
        if (!isWithin(lane, 0, LANES - 1)) {
            return OUTSIDE;
        }
        Sheet row = sheets[sheet];
        if (row == null) {
            return faulted(NULL_FAULT);
        }
        if (row.lane != lane) {
            return faulted(CAST_FAULT);
        }
        if (n < 0) {
            return faulted(SIZE_FAULT);
        }
        if (!row.hasCells(i, n)) {
            return faulted(INDEX_FAULT);
        }
        int firstFault = reader.firstFault(row.cells, i, n);
        if (firstFault != NONE) {
            return TEXT_FAULT_BASE - firstFault;
        }
        takeParts(reader.read);
        return parts.count;
    }

    public int part(int x, int what) {
        if (!parts.has(x)) {
            return UNKNOWN;
        }
        if (!isWithin(what, 0, 1)) {
            return OUTSIDE;
        }
        return what == 0 ? parts.kinds[x] : parts.wishes[x];
    }

    public int wish(int x, int n) {
        if (!parts.has(x)) {
            return UNKNOWN;
        }
        if (!isWithin(n, 0, MOST_WISHES)) {
            return OUTSIDE;
        }
        int was = parts.wishes[x];
        parts.wishes[x] = n;
        return was;
    }

    public int follows(int a, int b) {
        if (!parts.has(a) || !parts.has(b)) {
            return UNKNOWN;
        }
        if (a == b) {
            return OUTSIDE;
        }
        return parts.follows[a][b];
    }

    public int follow(int a, int b, int n) {
        if (!parts.has(a) || !parts.has(b)) {
            return UNKNOWN;
        }
        if (!isWithin(n, 0, MOST_FOLLOWS) || a == b) {
            return OUTSIDE;
        }
        int was = parts.follows[a][b];
        parts.follows[a][b] = n;
        return was;
    }

    // ---- 2 layings

    public int person() {
        if (personCount >= MOST_PERSONS) {
            return FULL;
        }
        personCount++;
        return personCount - 1;
    }

    public int can(int p, int what, int v) {
        if (!isPerson(p)) {
            return UNKNOWN;
        }
        if (!isWithin(what, 0, ABILITIES - 1) || !isWithin(v, LEAST_ABLE[what], MOST_ABLE[what])) {
            return OUTSIDE;
        }
        int[] able = persons[p].able;
        int was = able[what];
        able[what] = v;
        return was;
    }

    public int best(int p, int set, int x) {
        if (!isPerson(p) || !isPartOrAll(x)) {
            return UNKNOWN;
        }
        if (!parts.canBeLaid(set)) {
            return OUTSIDE;
        }
        int leastPrice = seeker.seek(parts, set, persons[p]);
        if (x < 0 || leastPrice == NONE) {
            return leastPrice;
        }
        return seeker.best.placeOf(x);
    }

    public int lay(int p, int set) {
        if (!isPerson(p)) {
            return UNKNOWN;
        }
        if (!parts.canBeLaid(set)) {
            return OUTSIDE;
        }
        int leastPrice = seeker.seek(parts, set, persons[p]);
        if (leastPrice != NONE) {
            persons[p].receiveLaying(seeker.best);
        }
        return leastPrice;
    }

    public int offer(int p, int gain) {
        if (!isPerson(p)) {
            return UNKNOWN;
        }
        if (!isWithin(gain, 0, MOST_GAIN)) {
            return OUTSIDE;
        }
        Person who = persons[p];
        if (who.laying.isEmpty()) {
            return STATE;
        }
        int leastPrice = seeker.seek(parts, who.laying.partSet(), who);
        if (leastPrice == NONE) {
            return NONE;
        }
        if (who.laying.priceBy(parts) - leastPrice < gain) {
            return 0;
        }
        who.receiveLaying(seeker.best);
        return 1;
    }

    public int back(int p) {
        if (!isPerson(p)) {
            return UNKNOWN;
        }
        if (persons[p].oldLaying.isEmpty()) {
            return STATE;
        }
        persons[p].swapLayings();
        return 1;
    }

    public int at(int p, int place) {
        if (!isPerson(p) || !isPlace(place)) {
            return UNKNOWN;
        }
        return persons[p].laying.partAt(place);
    }

    public int price(int p) {
        if (!isPerson(p)) {
            return UNKNOWN;
        }
        if (persons[p].laying.isEmpty()) {
            return STATE;
        }
        return persons[p].laying.priceBy(parts);
    }

    // ---- 3 ways

    public int ways(int set, int h, int x) {
        if (!parts.hasSet(set) || !isWithin(h, LEAST_ENTRIES, MOST_ENTRIES)) {
            return OUTSIDE;
        }
        if (!isPartOrAll(x)) {
            return UNKNOWN;
        }
        menus.build(parts, set, h);
        return x < 0 ? menus.costBy(parts) : menus.stepsOf(x);
    }

    public int kept(int p, int set, int steps) {
        if (!isPerson(p)) {
            return UNKNOWN;
        }
        if (!parts.hasSet(set) || !isWithin(steps, 1, MOST_STEPS)) {
            return OUTSIDE;
        }
        int entries = Math.min(Math.max(persons[p].able[HOLD], LEAST_ENTRIES), MOST_ENTRIES);
        menus.build(parts, set, entries);
        int keptSet = 0;
        for (int x = 0; x < parts.count; x++) {
            if (parts.kinds[x] >= DEED && menus.stepsOf(x) > steps) {
                keptSet |= 1 << x;
            }
        }
        return keptSet;
    }

    // ---- 4 presses

    public int rule(int what, int v) {
        if (!isWithin(what, 0, RULES - 1) || !isWithin(v, 0, MOST_RULED[what])) {
            return OUTSIDE;
        }
        int was = rules[what];
        rules[what] = v;
        return was;
    }

    public int press(int p, int x, int y, int tick) {
        if (!isPerson(p)) {
            return UNKNOWN;
        }
        if (!isWithin(x, 0, MOST_X) || !isWithin(y, 0, MOST_Y) || !isTick(tick)) {
            return OUTSIDE;
        }
        Person who = persons[p];
        if (tick < who.latestTick) {
            return STATE;
        }
        who.latestTick = tick;
        return pressFor(who, x, y, tick);
    }

    public int confirm(int p, int tick) {
        if (!isPerson(p)) {
            return UNKNOWN;
        }
        if (!isTick(tick)) {
            return OUTSIDE;
        }
        Person who = persons[p];
        if (who.askedPart == NONE || tick < who.latestTick) {
            return STATE;
        }
        int confirmed = who.askedPart;
        who.latestTick = tick;
        who.take(who.askedError);
        return confirmed;
    }

    public int asked(int p) {
        return isPerson(p) ? persons[p].askedPart : UNKNOWN;
    }

    public int undo(int p) {
        if (!isPerson(p)) {
            return UNKNOWN;
        }
        if (persons[p].lastCount == 0) {
            return STATE;
        }
        return persons[p].takeBack();
    }

    public int counted(int p, int error) {
        if (!isPerson(p)) {
            return UNKNOWN;
        }
        if (!isWithin(error, 0, ERRORS - 1)) {
            return OUTSIDE;
        }
        return persons[p].countedBy[error];
    }

    public int span(int p, int tenths) {
        if (!isPerson(p)) {
            return UNKNOWN;
        }
        if (!isWithin(tenths, 1, TENTHS)) {
            return OUTSIDE;
        }
        return persons[p].spanFor(tenths);
    }

    public long worse(int p, int which) {
        if (!isPerson(p) || !isWithin(which, 0, 1)) {
            return LOST;
        }
        int rising = persons[p].pairsThatGo(1);
        int falling = persons[p].pairsThatGo(-1);
        if (rising + falling == 0) {
            return LOST;
        }
        return shareNumber(rising, rising + falling, which);
    }

    // ---- 5 trials, leave

    public int trial(int p, int old, int now) {
        if (!isPerson(p)) {
            return UNKNOWN;
        }
        if (!isWithin(old, 0, MOST_RESULT) || !isWithin(now, 0, MOST_RESULT)) {
            return OUTSIDE;
        }
        Person who = persons[p];
        if (who.trialCount >= MOST_TRIALS) {
            return FULL;
        }
        who.trialGains[who.trialCount] = old - now;
        who.trialCount++;
        return who.trialCount;
    }

    public long odds(int p, int which) {
        if (!isPerson(p) || !isWithin(which, 0, 1)) {
            return LOST;
        }
        Person who = persons[p];
        if (who.trialCount == 0) {
            return LOST;
        }
        int asGreat = waysAsGreat(who.trialGains, who.trialCount, 0, 0);
        return shareNumber(asGreat, 1 << who.trialCount, which);
    }

    public int leave(int p, int q, int what, int till) {
        if (!isPerson(p) || !isPerson(q)) {
            return UNKNOWN;
        }
        if (p == q || !isWithin(what, 0, LEAVES - 1) || !isWithin(till, NO_LEAVE, LAST_TICK)) {
            return OUTSIDE;
        }
        int[] tills = persons[p].leaveTills;
        int slot = what * MOST_PERSONS + q;
        int was = tills[slot];
        tills[slot] = till;
        return was == NO_LEAVE ? NONE : was;
    }

    public int see(int q, int p, int place, int tick) {
        if (!isPerson(q) || !isPerson(p) || !isPlace(place)) {
            return UNKNOWN;
        }
        if (!isTick(tick)) {
            return OUTSIDE;
        }
        if (!hasLeave(q, p, LEAVE_LAYING, tick)) {
            return STATE;
        }
        return persons[p].laying.partAt(place);
    }

    public int told(int q, int p, int tenths, int tick) {
        if (!isPerson(q) || !isPerson(p)) {
            return UNKNOWN;
        }
        if (!isWithin(tenths, 1, TENTHS) || !isTick(tick)) {
            return OUTSIDE;
        }
        if (!hasLeave(q, p, LEAVE_SPANS, tick)) {
            return STATE;
        }
        return persons[p].spanFor(tenths);
    }

    // ---- 6 sheets, parts

    public int sheet(int k, int lane, int n) {
        fault = 0;
        if (!isWithin(k, 0, MOST_SHEETS - 1)) {
            return UNKNOWN;
        }
        if (!isWithin(lane, 0, LANES - 1) || n > MOST_CELLS) {
            return OUTSIDE;
        }
        if (n < 0) {
            return faulted(SIZE_FAULT);
        }
        sheets[k] = new Sheet(lane, n);
        return 1;
    }

    public int lose(int k) {
        if (!isWithin(k, 0, MOST_SHEETS - 1)) {
            return UNKNOWN;
        }
        int had = sheets[k] == null ? 0 : 1;
        sheets[k] = null;
        return had;
    }

    public int put(int k, int i, int v) {
        fault = 0;
        if (!isWithin(k, 0, MOST_SHEETS - 1)) {
            return UNKNOWN;
        }
        Sheet row = sheets[k];
        if (row == null) {
            return faulted(NULL_FAULT);
        }
        if (!isWithin(i, 0, row.cells.length - 1)) {
            return faulted(INDEX_FAULT);
        }
        row.cells[i] = cutToLane(v, row.lane);
        return 1;
    }

    public long cell(int k, int i, int lane) {
        fault = 0;
        if (!isWithin(k, 0, MOST_SHEETS - 1) || !isWithin(lane, 0, LANES - 1)) {
            return LOST;
        }
        Sheet row = sheets[k];
        if (row == null) {
            fault = NULL_FAULT;
            return LOST;
        }
        if (row.lane != lane) {
            fault = CAST_FAULT;
            return LOST;
        }
        if (!isWithin(i, 0, row.cells.length - 1)) {
            fault = INDEX_FAULT;
            return LOST;
        }
        return row.cells[i];
    }

    public int copy(int k, int i, int other, int j, int n) {
        fault = 0;
        if (!isWithin(k, 0, MOST_SHEETS - 1) || !isWithin(other, 0, MOST_SHEETS - 1)) {
            return UNKNOWN;
        }
        Sheet from = sheets[k];
        Sheet to = sheets[other];
        if (from == null || to == null) {
            return faulted(NULL_FAULT);
        }
        if (from.lane != to.lane) {
            return faulted(CAST_FAULT);
        }
        if (!from.hasCells(i, n) || !to.hasCells(j, n)) {
            return faulted(INDEX_FAULT);
        }
        System.arraycopy(from.cells, i, to.cells, j, n);
        return n;
    }

    public int tell(int x) {
        if (!parts.has(x)) {
            return UNKNOWN;
        }
        switch (parts.kinds[x]) {
            case DANGER:
                return dangerBody(x);
            case DEED:
                return deedBody(x);
            default:
                return partBody(x);
        }
    }

    public int speak(int x) {
        if (!parts.has(x)) {
            return UNKNOWN;
        }
        return parts.kinds[x] == DANGER ? dangerSpokenBody() : lentBody(x);
    }

    public int as(int x, int kind) {
        fault = 0;
        if (!parts.has(x)) {
            return UNKNOWN;
        }
        if (!isWithin(kind, 0, KINDS - 1)) {
            return OUTSIDE;
        }
        return parts.kinds[x] >= kind ? 1 : faulted(CAST_FAULT);
    }

    public int trace() {
        return trace;
    }

    public int fault() {
        return fault;
    }

    public int many(int what) {
        if (!isWithin(what, 0, 1)) {
            return OUTSIDE;
        }
        return what == 0 ? parts.count : personCount;
    }

    // ---- what the calls share

    private static boolean isWithin(int v, int least, int most) {
        return v >= least && v <= most;
    }

    private static boolean isPlace(int place) {
        return isWithin(place, 0, PLACES - 1);
    }

    private static boolean isTick(int tick) {
        return isWithin(tick, 0, LAST_TICK);
    }

    private boolean isPerson(int p) {
        return isWithin(p, 0, personCount - 1);
    }

    private boolean isPartOrAll(int x) {
        return x == -1 || parts.has(x);
    }

    private boolean hasLeave(int q, int p, int what, int tick) {
        return q == p || tick <= persons[p].leaveTills[what * MOST_PERSONS + q];
    }

    private int faulted(int which) {
        fault = which;
        return FAULT_BASE - which;
    }

    private void takeParts(Parts given) {
        parts.become(given);
        for (int p = 0; p < MOST_PERSONS; p++) {
            persons[p].forgetLayings();
        }
    }

    private int pressFor(Person who, int x, int y, int tick) {
        int meant = NONE;
        int greatest = 0;
        int all = 0;
        for (int a = 0; a < parts.count; a++) {
            int weight = weightOf(who, a, x, y);
            all += weight;
            if (weight > greatest) {
                greatest = weight;
                meant = a;
            }
        }
        if (meant == NONE) {
            return NONE;
        }
        int error = who.laying.errorOf(meant, x, y);
        boolean sure = TENTHS * greatest >= rules[SURENESS] * all;
        boolean safe = parts.kinds[meant] != DANGER || who.isStillAsked(meant, tick, rules[PAUSE]);
        if (sure && safe) {
            who.take(error);
            return meant;
        }
        who.ask(meant, error, tick);
        return ASKED_BASE + meant;
    }

    /** 0 for a PART that the press cannot be for: every other weight is above it. */
    private int weightOf(Person who, int part, int x, int y) {
        int error = who.laying.errorOf(part, x, y);
        if (!isWithin(error, 0, ERRORS - 1)) {
            return 0;
        }
        return (parts.wishes[part] + 1) * (who.countedBy[error] + 1);
    }

    private void leaveTrace(int number) {
        trace = 31 * trace + number;
    }

    private int partBody(int x) {
        leaveTrace(1);
        return parts.wishes[x];
    }

    private int deedBody(int x) {
        leaveTrace(2);
        return partBody(x) + 1000;
    }

    private int dangerBody(int x) {
        leaveTrace(3);
        int deeds = deedBody(x);
        return deeds + partBody(x);
    }

    private int lentBody(int x) {
        leaveTrace(4);
        return x;
    }

    private int dangerSpokenBody() {
        leaveTrace(5);
        return 99;
    }

    private static int cutToLane(int v, int lane) {
        switch (lane) {
            case BYTES:
                return (byte) v;
            case SHORTS:
                return (short) v;
            default:
                return v;
        }
    }

    private static int columnOf(int place) {
        return place % COLUMNS;
    }

    private static int rowOf(int place) {
        return place / COLUMNS;
    }

    /**
     * Changing sides of some TRIALS takes twice their gains from the sum, so the sum stays as great
     * just where those gains together are not above 0.
     */
    private static int waysAsGreat(int[] gains, int count, int k, int changed) {
        if (k >= count || k >= gains.length) {
            return changed <= 0 ? 1 : 0;
        }
        return waysAsGreat(gains, count, k + 1, changed)
                + waysAsGreat(gains, count, k + 1, changed + gains[k]);
    }

    /** The upper number (which 0) or the lower one of a share in least terms; lower is above 0. */
    private static int shareNumber(int upper, int lower, int which) {
        int divisor = Math.max(1, greatestDivisor(upper, lower));
        return (which == 0 ? upper : lower) / divisor;
    }

    private static int greatestDivisor(int a, int b) {
        int greater = a;
        int rest = b;
        // Euclid's way ends far sooner for ints: the counter only makes the end plain.
        for (int k = 0; k < 100 && rest != 0; k++) {
            int next = greater % rest;
            greater = rest;
            rest = next;
        }
        return greater;
    }

    private static final class Parts {
        int count = 0;
        final int[] kinds = new int[MOST_PARTS];
        final int[] wishes = new int[MOST_PARTS];
        final int[][] follows = new int[MOST_PARTS][MOST_PARTS];

        boolean has(int x) {
            return x >= 0 && x < count;
        }

        /** Whether it is a set of PARTS, not empty. */
        boolean hasSet(int set) {
            return set > 0 && set < 1 << count;
        }

        boolean canBeLaid(int set) {
            return hasSet(set) && Integer.bitCount(set) <= MOST_LAID;
        }

        int followsBothWays(int a, int b) {
            return follows[a][b] + follows[b][a];
        }

        void clear() {
            count = 0;
            for (int a = 0; a < MOST_PARTS; a++) {
                Arrays.fill(follows[a], 0);
            }
        }

        void become(Parts other) {
            count = other.count;
            System.arraycopy(other.kinds, 0, kinds, 0, MOST_PARTS);
            System.arraycopy(other.wishes, 0, wishes, 0, MOST_PARTS);
            for (int a = 0; a < MOST_PARTS; a++) {
                System.arraycopy(other.follows[a], 0, follows[a], 0, MOST_PARTS);
            }
        }

        void add(int kind) {
            if (count < MOST_PARTS) {
                kinds[count] = kind;
                wishes[count] = 0;
                count++;
            }
        }

        void addDigitToLatest(int digit) {
            if (count > 0) {
                wishes[count - 1] = 10 * wishes[count - 1] + digit;
            }
        }

        boolean isAheadOfLatest(int x) {
            return x >= 0 && x < count - 1;
        }

        void putBehindLatest(int x) {
            if (isAheadOfLatest(x)) {
                follows[count - 1][x]++;
            }
        }
    }

    /** Reads a TEXT code by code; what may come next is all that it keeps in mind. */
    private static final class Reader {
        private static final int LETTER = 0, FIRST_DIGIT = 1, NUMBER = 2, AHEAD = 3, SIGN = 4;
        private static final int MOST_DIGITS = 3;

        /** Kept apart from the PARTS that there are, which a TEXT with a fault must not touch. */
        final Parts read = new Parts();
        private int awaited = LETTER;
        private int digits = 0;

        /** NONE: the cells are a TEXT, and what is read are its PARTS. */
        int firstFault(int[] cells, int from, int n) {
            read.clear();
            awaited = LETTER;
            for (int k = 0; k < n; k++) {
                if (!takes(cells[from + k])) {
                    return k;
                }
            }
            return awaited == NUMBER || awaited == SIGN ? NONE : n;
        }

        private boolean takes(int code) {
            switch (awaited) {
                case LETTER:
                    return takesLetter(code);
                case FIRST_DIGIT:
                    return takesDigit(code);
                case NUMBER:
                    return digits < MOST_DIGITS && takesDigit(code) || takesSign(code);
                case AHEAD:
                    return takesAhead(code);
                default:
                    return takesSign(code);
            }
        }

        private boolean takesLetter(int code) {
            int kind = kindOf(code);
            if (kind == NONE) {
                return false;
            }
            read.add(kind);
            digits = 0;
            awaited = FIRST_DIGIT;
            return true;
        }

        private static int kindOf(int code) {
            switch (code) {
                case 'p':
                    return 0;
                case 'd':
                    return DEED;
                case 'x':
                    return DANGER;
                default:
                    return NONE;
            }
        }

        private boolean takesDigit(int code) {
            if (!isWithin(code, '0', '9')) {
                return false;
            }
            read.addDigitToLatest(code - '0');
            digits++;
            awaited = NUMBER;
            return true;
        }

        private boolean takesSign(int code) {
            if (code == '>') {
                awaited = AHEAD;
                return true;
            }
            if (code == ';' && read.count < MOST_PARTS) {
                awaited = LETTER;
                return true;
            }
            return false;
        }

        private boolean takesAhead(int code) {
            int ahead = code - '0';
            if (!isWithin(code, '0', '9') || !read.isAheadOfLatest(ahead)) {
                return false;
            }
            read.putBehindLatest(ahead);
            awaited = SIGN;
            return true;
        }
    }

    private static final class Laying {
        private int laid = 0;
        private final int[] places = new int[MOST_PARTS];

        boolean isEmpty() {
            return laid == 0;
        }

        int partSet() {
            return laid;
        }

        void clear() {
            laid = 0;
        }

        void layPart(int part, int place) {
            laid |= 1 << part;
            places[part] = place;
        }

        void become(Laying other) {
            laid = other.laid;
            System.arraycopy(other.places, 0, places, 0, MOST_PARTS);
        }

        boolean hasPart(int part) {
            return (laid >> part & 1) == 1;
        }

        int placeOf(int part) {
            return hasPart(part) ? places[part] : NONE;
        }

        int partAt(int place) {
            for (int a = 0; a < MOST_PARTS; a++) {
                if (hasPart(a) && places[a] == place) {
                    return a;
                }
            }
            return NONE;
        }

        int priceBy(Parts parts) {
            int sum = 0;
            for (int b = 0; b < parts.count; b++) {
                for (int a = 0; a < b; a++) {
                    if (hasPart(a) && hasPart(b)) {
                        sum += parts.followsBothWays(a, b) * wayBetween(places[a], places[b]);
                    }
                }
            }
            return sum;
        }

        /** NONE: the PART is not in this LAYING. */
        int errorOf(int part, int x, int y) {
            if (!hasPart(part)) {
                return NONE;
            }
            int middleX = PLACE_SIZE * columnOf(places[part]) + PLACE_SIZE / 2;
            int middleY = PLACE_SIZE * rowOf(places[part]) + PLACE_SIZE / 2;
            return Math.max(Math.abs(x - middleX), Math.abs(y - middleY)) / ERROR_SIZE;
        }

        static int wayBetween(int place, int other) {
            return Math.abs(columnOf(place) - columnOf(other)) + Math.abs(rowOf(place) - rowOf(other));
        }

        static int apart(int place, int other) {
            return Math.max(Math.abs(columnOf(place) - columnOf(other)),
                    Math.abs(rowOf(place) - rowOf(other)));
        }
    }

    /** Seeks the BEST LAYING; one object seeks for all calls, so that none of them makes rows. */
    private static final class Seeker {
        /** Far above every PRICE, and far enough below the greatest int to be added to one. */
        private static final int NO_PRICE = 1 << 20;

        final Laying best = new Laying();
        private final int[] chosen = new int[MOST_LAID];
        private final int[] places = new int[MOST_LAID];
        private final int[][] pulls = new int[MOST_LAID][MOST_LAID];
        private final int[] leastAmong = new int[MOST_LAID + 1];
        /** By how many are laid, and by PART and PLACE: what it would pay there to those; 0 to none. */
        private final int[][] dues = new int[MOST_LAID][MOST_LAID * PLACES];
        private final int[][] wayFrom = new int[PLACES][PLACES];
        private final int[][] tooNear = new int[MOST_WIDE + 1][PLACES];
        private int count = 0;
        private int wide = 0;
        private int bestPrice = NO_PRICE;

        Seeker() {
            for (int place = 0; place < PLACES; place++) {
                for (int other = 0; other < PLACES; other++) {
                    wayFrom[place][other] = Laying.wayBetween(place, other);
                    for (int w = 0; w <= MOST_WIDE; w++) {
                        tooNear[w][place] |= Laying.apart(place, other) <= w ? 1 << other : 0;
                    }
                }
            }
        }

        /** The PRICE of what is the best then; NONE: there is no LAYING. */
        int seek(Parts parts, int set, Person who) {
            best.clear();
            choose(set);
            if (count > who.able[HOLD]) {
                return NONE;
            }
            wide = who.able[WIDE];
            weighPairs(parts);
            bestPrice = NO_PRICE;
            layFrom(0, 0, who.able[REACH]);
            return best.isEmpty() ? NONE : bestPrice;
        }

        private void choose(int set) {
            count = 0;
            for (int a = 0; a < MOST_PARTS && count < MOST_LAID; a++) {
                if ((set >> a & 1) == 1) {
                    chosen[count] = a;
                    count++;
                }
            }
        }

        /** Any two lie more than WIDE apart: that tells the least that those from k on pay each other. */
        private void weighPairs(Parts parts) {
            leastAmong[count] = 0;
            for (int k = count - 1; k >= 0; k--) {
                int sum = 0;
                for (int later = k + 1; later < count; later++) {
                    pulls[k][later] = parts.followsBothWays(chosen[k], chosen[later]);
                    sum += pulls[k][later];
                }
                leastAmong[k] = leastAmong[k + 1] + sum * (wide + 1);
            }
        }

        /** Goes through LAYINGS in their order as rows, so a like PRICE that comes later is no better. */
        private void layFrom(int k, int paid, int free) {
            if (k >= count) {
                keepAsBest(paid);
                return;
            }
            for (int place = 0; place < PLACES; place++) {
                if ((free >> place & 1) == 1) {
                    places[k] = place;
                    int paidThen = paid + dues[k][k * PLACES + place];
                    int freeThen = free & ~tooNear[wide][place];
                    if (paidThen + leastRest(k, freeThen) < bestPrice) {
                        layFrom(k + 1, paidThen, freeThen);
                    }
                }
            }
        }

        /** The least that those behind k can still pay, now that k is laid; leaves what is due of them. */
        private int leastRest(int k, int free) {
            int sum = leastAmong[k + 1];
            for (int later = k + 1; later < count; later++) {
                sum += leastDue(k, later, free);
            }
            return sum;
        }

        private int leastDue(int k, int later, int free) {
            int[] way = wayFrom[places[k]];
            int least = NO_PRICE;
            for (int place = 0; place < PLACES; place++) {
                if ((free >> place & 1) == 1) {
                    int due = dues[k][later * PLACES + place] + pulls[k][later] * way[place];
                    dues[k + 1][later * PLACES + place] = due;
                    least = Math.min(least, due);
                }
            }
            return least;
        }

        private void keepAsBest(int paid) {
            bestPrice = paid;
            for (int k = 0; k < count; k++) {
                best.layPart(chosen[k], places[k]);
            }
        }
    }

    /** The tree of WAYS, built anew for each call in rows that stay. */
    private static final class Menus {
        private static final int MOST_NODES = 2 * MOST_PARTS, ROOT = -1;

        private final int[] weights = new int[MOST_NODES];
        private final int[] menuOf = new int[MOST_NODES];
        private final int[] nodeOf = new int[MOST_PARTS];
        private int nodeCount = 0;

        void build(Parts parts, int set, int entries) {
            nodeCount = 0;
            for (int x = 0; x < MOST_PARTS; x++) {
                nodeOf[x] = NONE;
                if (x < parts.count && (set >> x & 1) == 1) {
                    nodeOf[x] = nodeCount;
                    addNode(parts.wishes[x]);
                }
            }
            int open = nodeCount;
            int first = open < 2 || entries < 2 ? 1 : 2 + (open - 2) % (entries - 1);
            joinLeast(first);
            open -= first - 1;
            for (int k = 0; k < MOST_PARTS && open > 1; k++) {
                joinLeast(entries);
                open -= entries - 1;
            }
        }

        private void addNode(int weight) {
            if (nodeCount < MOST_NODES) {
                weights[nodeCount] = weight;
                menuOf[nodeCount] = ROOT;
                nodeCount++;
            }
        }

        private void joinLeast(int howMany) {
            int menu = nodeCount;
            int sum = 0;
            for (int k = 0; k < howMany; k++) {
                int least = leastOpenNode();
                if (least != NONE) {
                    menuOf[least] = menu;
                    sum += weights[least];
                }
            }
            addNode(sum);
        }

        private int leastOpenNode() {
            int least = NONE;
            for (int node = 0; node < nodeCount; node++) {
                if (menuOf[node] == ROOT && (least == NONE || weights[node] < weights[least])) {
                    least = node;
                }
            }
            return least;
        }

        /** NONE: the PART is not in the set. */
        int stepsOf(int x) {
            if (nodeOf[x] == NONE) {
                return NONE;
            }
            int steps = 0;
            int node = nodeOf[x];
            while (steps < MOST_NODES && menuOf[node] != ROOT) {
                node = menuOf[node];
                steps++;
            }
            return steps;
        }

        int costBy(Parts parts) {
            int sum = 0;
            for (int x = 0; x < parts.count; x++) {
                if (nodeOf[x] != NONE) {
                    sum += parts.wishes[x] * stepsOf(x);
                }
            }
            return sum;
        }
    }

    private static final class Person {
        final int[] able = new int[ABILITIES];
        Laying laying = new Laying();
        Laying oldLaying = new Laying();
        int latestTick = 0;
        int askedPart = NONE;
        int askedError = 0;
        private int askedTick = 0;
        final int[] countedBy = new int[ERRORS];
        private final int[] lastErrors = new int[MOST_LAST];
        int lastCount = 0;
        final int[] trialGains = new int[MOST_TRIALS];
        int trialCount = 0;
        final int[] leaveTills = new int[LEAVES * MOST_PERSONS];

        Person() {
            able[REACH] = MOST_ABLE[REACH];
            able[HOLD] = MOST_ABLE[HOLD];
            Arrays.fill(leaveTills, NO_LEAVE);
        }

        void receiveLaying(Laying given) {
            swapLayings();
            laying.become(given);
        }

        void swapLayings() {
            Laying former = laying;
            laying = oldLaying;
            oldLaying = former;
            askedPart = NONE;
        }

        void forgetLayings() {
            laying.clear();
            oldLaying.clear();
            askedPart = NONE;
        }

        boolean isStillAsked(int part, int tick, int pause) {
            return askedPart == part && tick - askedTick <= pause;
        }

        void ask(int part, int error, int tick) {
            askedPart = part;
            askedError = error;
            askedTick = tick;
        }

        void take(int error) {
            askedPart = NONE;
            countedBy[error]++;
            if (lastCount == MOST_LAST) {
                System.arraycopy(lastErrors, 1, lastErrors, 0, MOST_LAST - 1);
                lastCount--;
            }
            lastErrors[lastCount] = error;
            lastCount++;
        }

        int takeBack() {
            lastCount--;
            int error = lastErrors[lastCount];
            countedBy[error]--;
            return error;
        }

        /** NONE: no press is COUNTED. */
        int spanFor(int tenths) {
            int all = 0;
            for (int error = 0; error < ERRORS; error++) {
                all += countedBy[error];
            }
            int upTo = 0;
            for (int error = 0; error < ERRORS && all > 0; error++) {
                upTo += countedBy[error];
                if (TENTHS * upTo >= tenths * all) {
                    return error;
                }
            }
            return NONE;
        }

        /** Pairs of LAST ones whose later one is greater (1), or less (-1). */
        int pairsThatGo(int direction) {
            int pairs = 0;
            for (int later = 0; later < lastCount; later++) {
                for (int k = 0; k < later; k++) {
                    if (Integer.compare(lastErrors[later], lastErrors[k]) == direction) {
                        pairs++;
                    }
                }
            }
            return pairs;
        }
    }

    private static final class Sheet {
        final int lane;
        final int[] cells;

        Sheet(int lane, int n) {
            this.lane = lane;
            this.cells = new int[Math.max(0, n)];
        }

        /** Also asked for no cells at all: then i must still be 0 .. how many there are. */
        boolean hasCells(int i, int n) {
            return i >= 0 && i <= cells.length && n >= 0 && n <= cells.length - i;
        }
    }
}

import java.util.Arrays;

/**
 * What was nearly said, and how it comes along the gutter, house by house, to the pond by the gasworks.
 * The promises that are named by number stand in the project's document.
 */
public final class NearlySaid {
    public static final int NONE = -1000000, BAD = -1000001, STATE = -1000002, FULL = -1000003;

    // Findings: the answer is FOUND less the finding's number.
    private static final int FOUND = -1000010;
    private static final int NO_FINDING = 0, NULL = 1, PLACE = 2, KIND = 3, SIZE = 4, STORE = 5;

    private static final int ROWS = 8, MOST_ITEMS = 40;
    private static final int MISSING = -1, BYTES = 0, SHORTS = 1, INTS = 2;

    // Texts: the answer to a faulty one is FAULTY less the fault's place.
    private static final int FAULTY = -1000100;
    private static final int CANNOT_STAND = 1, NOT_AS_TOLD = 2, NO_ROOM = 3;
    private static final int TAPE_ROOM = 120, MOST_FIGURES = 2, LAST_BYTE = 255;
    private static final int NUMBER = 256, NO_TOKEN = 257, END = 258;

    private static final int MOST_HOUSES = 7, MOST_STEP = 9, MOST_PLANK = 99;
    private static final int MOST_TALK = 20, MOST_KEPT = 9, MOST_BARS = 9;
    private static final int GUTTER_ROOM = 999, POND_ROOM = 9999;
    private static final int LAST_MINUTE = 999, MOST_MINUTES = 24, MOST_LET_DOWN = 99;
    private static final int ACTS_KEPT = 24, IMAGES = 2;

    private static final int FAR = 99, FARTHEST = 200, NEAR = 40, LONGEST_TOLD = 12;
    private static final int AS_IT_IS = 128, FROM_BASE = 1000, ALL_CASES = 10;
    private static final int LONGEST_NIGHT = 60, LAST_SEED = 999999, NIGHT_LET_DOWN = 5;
    private static final long DRAW_FACTOR = 16807L, DRAW_REST = 2147483647L;
    private static final int POND = -1;
    private static final int KINDS = 0, TALKS = 1, KEPT = 2;

    private static final int HOUSE = 0, KINDLY = 1, HARD = 2, MERRY = 3, SILENT = 4, NERVOUS = 5;
    private static final int NO_KIND = -1, KINDS_IN_ALL = 6;
    /** For each kind the nearest one that it is, too. */
    private static final int[] PARENTS = {NO_KIND, HOUSE, KINDLY, KINDLY, HOUSE, SILENT};

    // The bodies of the asks, by the numbers that they leave in the trace.
    private static final int ASK_SIZE = 0, ASK_MARK = 1;
    private static final int SIZE_LENT = 10, SIZE_KINDLY = 11, SIZE_HARD = 12, SIZE_SILENT = 13, SIZE_NERVOUS = 14;
    private static final int MARK_LENT = 20, MARK_KINDLY = 21, MARK_MERRY = 22, MARK_SILENT = 23, MARK_HARD = 24;
    private static final int NO_BODY = 0;
    /** For each kind the body told for it. */
    private static final int[] SIZE_BODIES = {SIZE_LENT, SIZE_KINDLY, SIZE_HARD, NO_BODY, SIZE_SILENT, SIZE_NERVOUS};
    private static final int[] MARK_BODIES = {MARK_LENT, MARK_KINDLY, MARK_HARD, MARK_MERRY, MARK_SILENT, NO_BODY};
    private static final int TRACE_ROOM = 16, DEEPEST_BODY = 20;

    private final Row[] rows = new Row[ROWS];
    private final Tape tape = new Tape();
    private final Street now = new Street();
    /** Where all that is foretold is tried out, so that nothing changes and no call makes objects. */
    private final Street foreseen = new Street();
    private final Acts acts = new Acts();
    private final Street[] images = new Street[IMAGES];
    private final int[] trace = new int[TRACE_ROOM];
    private int traced;
    private int latestFault;
    private int latestFinding;

    public NearlySaid() {
        for (int r = 0; r < ROWS; r++) {
            rows[r] = new Row();
        }
        for (int k = 0; k < IMAGES; k++) {
            images[k] = new Street();
        }
    }

    // ---- rows

    public int row(int row, int lane, int n) {
        if (!isRow(row) || !isWithin(lane, BYTES, INTS) || n > MOST_ITEMS) {
            return BAD;
        }
        if (n < 0) {
            return found(SIZE);
        }
        rows[row].begin(lane, n);
        return unfound(n);
    }

    public int set(int row, int i, int v) {
        if (!isRow(row)) {
            return BAD;
        }
        int finding = rows[row].findingOf(i, 1);
        return finding != NO_FINDING ? found(finding) : unfound(rows[row].put(i, v));
    }

    public int copy(int a, int i, int b, int j, int n) {
        if (!isRow(a) || !isRow(b)) {
            return BAD;
        }
        Row source = rows[a];
        Row target = rows[b];
        if (source.isMissing() || target.isMissing()) {
            return found(NULL);
        }
        if (source.lane != target.lane) {
            return found(STORE);
        }
        if (!source.has(i, n) || !target.has(j, n)) {
            return found(PLACE);
        }
        System.arraycopy(source.items, i, target.items, j, n);
        return unfound(n);
    }

    public int drop(int row) {
        if (!isRow(row)) {
            return BAD;
        }
        if (rows[row].isMissing()) {
            return found(NULL);
        }
        rows[row].lane = MISSING;
        return unfound(rows[row].size);
    }

    // ---- what is told

    public int feed(int letter) {
        if (!isWithin(letter, 0, LAST_BYTE)) {
            return BAD;
        }
        return tape.add(letter) ? tape.length : FULL;
    }

    public int street() {
        boolean isRead = tape.readStreet(foreseen);
        tape.length = 0;
        if (!isRead) {
            latestFault = tape.fault;
            return FAULTY - tape.at;
        }
        now.takeFrom(foreseen);
        acts.forgetAll();
        return now.houses;
    }

    public int fault() {
        return latestFault;
    }

    public int undo() {
        return acts.undoLatest(now) ? acts.kept : STATE;
    }

    // ---- what is done

    public int minutes(int n) {
        if (!now.stands()) {
            return STATE;
        }
        if (!isWithin(n, 1, MOST_MINUTES)) {
            return BAD;
        }
        if (now.minute + n > LAST_MINUTE) {
            return FULL;
        }
        for (int m = 0; m < n; m++) {
            acts.keep(now);
            now.passMinute();
        }
        return now.pond;
    }

    public int talk(int house, int n) {
        if (!isHouse(house) || !isWithin(n, 0, MOST_TALK)) {
            return BAD;
        }
        int before = now.talk[house];
        acts.keep(now);
        now.talk[house] = n;
        return before;
    }

    public int hush(int house, int on) {
        if (!isHouse(house) || !isWithin(on, 0, 1)) {
            return BAD;
        }
        if (now.isHushed(house) == (on == 1)) {
            return STATE;
        }
        acts.keep(now);
        now.hushed ^= 1 << house;
        return now.hushed;
    }

    public int bars(int house, int n) {
        if (!isHouse(house) || !isWithin(n, 0, MOST_BARS)) {
            return BAD;
        }
        int before = now.caught[house];
        acts.keep(now);
        now.putBars(house, n);
        return before;
    }

    public int letDown(int n) {
        if (!now.stands()) {
            return STATE;
        }
        if (!isWithin(n, 1, MOST_LET_DOWN)) {
            return BAD;
        }
        acts.keep(now);
        now.lowerPond(n);
        return now.pond;
    }

    public int house(int house, int what) {
        if (!isHouse(house)) {
            return BAD;
        }
        switch (what) {
            case 0: return now.talk[house];
            case 1: return now.keeps[house];
            case 2: return now.bars[house];
            case 3: return now.gutter[house];
            case 4: return now.caught[house];
            case 5: return now.shedsOf(house);
            case 6: return now.isHushed(house) ? 1 : 0;
            default: return BAD;
        }
    }

    public int stand(int what) {
        if (!now.stands()) {
            return STATE;
        }
        switch (what) {
            case 0: return now.pond;
            case 1: return now.isOverPlank() ? 1 : 0;
            case 2: return now.hushed;
            case 3: return now.caughtInAll();
            case 4: return now.inAllGutters();
            default: return BAD;
        }
    }

    // ---- foretold

    public int ahead(int house, int n) {
        if (!isHouse(house) || !isWithin(n, 0, FAR)) {
            return BAD;
        }
        foreseen.takeFrom(now);
        foreseen.passMinutes(n);
        return foreseen.gutter[house];
    }

    public int pond(int n, int what) {
        if (!now.stands()) {
            return STATE;
        }
        if (!isWithin(n, 0, FAR) || !isWithin(what, 0, 1)) {
            return BAD;
        }
        foreseen.takeFrom(now);
        foreseen.passMinutes(n);
        return what == 0 ? foreseen.pond : foreseen.caughtInAll();
    }

    public int over() {
        if (!now.stands()) {
            return STATE;
        }
        foreseen.takeFrom(now);
        for (int m = 0; m <= FARTHEST; m++) {
            if (foreseen.isOverPlank()) {
                return m;
            }
            foreseen.passMinute();
        }
        return NONE;
    }

    public int full(int what) {
        if (!now.stands()) {
            return STATE;
        }
        if (!isWithin(what, 0, 1)) {
            return BAD;
        }
        foreseen.takeFrom(now);
        for (int m = 0; m <= FAR; m++) {
            int whose = foreseen.firstFullBars();
            if (whose != NONE) {
                return what == 0 ? whose : m;
            }
            foreseen.passMinute();
        }
        return NONE;
    }

    public int most(int house, int n, int what) {
        if (!isHouse(house) || !isWithin(n, 0, FAR) || !isWithin(what, 0, 1)) {
            return BAD;
        }
        foreseen.takeFrom(now);
        int much = foreseen.gutter[house];
        int behind = 0;
        for (int m = 1; m <= n; m++) {
            foreseen.passMinute();
            if (foreseen.gutter[house] > much) {
                much = foreseen.gutter[house];
                behind = m;
            }
        }
        return what == 0 ? much : behind;
    }

    public int hushes(int house, int n, int what) {
        if (!isHouse(house) || !isWithin(n, 1, NEAR) || !isWithin(what, 0, 1)) {
            return BAD;
        }
        return howManyOrWhich(fewestToHush(house, n), what);
    }

    public int spares(int n, int what) {
        if (!now.stands()) {
            return STATE;
        }
        if (!isWithin(n, 1, NEAR) || !isWithin(what, 0, 1)) {
            return BAD;
        }
        return howManyOrWhich(fewestToHush(POND, n), what);
    }

    public int catches(int n, int what) {
        if (!now.stands()) {
            return STATE;
        }
        if (!isWithin(n, 1, NEAR) || !isWithin(what, 0, 1)) {
            return BAD;
        }
        int where = 0;
        int least = POND_ROOM + 1;
        for (int h = 0; h < now.houses; h++) {
            foreseen.takeFrom(now);
            foreseen.putBars(h, MOST_BARS);
            foreseen.passMinutes(n);
            if (foreseen.pond < least) {
                least = foreseen.pond;
                where = h;
            }
        }
        return what == 0 ? where : least;
    }

    public int from(int house, int n) {
        if (!isHouse(house) || !isWithin(n, 1, NEAR)) {
            return BAD;
        }
        foreseeHushed(0, n);
        int loudPond = foreseen.pond;
        foreseeHushed(1 << house, n);
        return FROM_BASE + loudPond - foreseen.pond;
    }

    public int loud(int house, int n) {
        if (!isHouse(house) || !isWithin(n, 1, FAR)) {
            return BAD;
        }
        for (int talk = 0; talk <= MOST_TALK; talk++) {
            foreseen.takeFrom(now);
            foreseen.talk[house] = talk;
            foreseen.passMinutes(n);
            if (foreseen.isOverPlank()) {
                return talk;
            }
        }
        return NONE;
    }

    public int dry() {
        return now.stands() ? now.dryGutters() : STATE;
    }

    public int lag(int house) {
        if (!isHouse(house)) {
            return BAD;
        }
        // With no bars something goes one house on in every minute, as STEP is never 0.
        return now.gutter[house] > 0 ? now.houses - house : NONE;
    }

    public int who(int house, int which, int other, int row, int i, int n) {
        if (!isHouse(house) || !isWithin(which, KINDS, KEPT) || !isHouse(other)) {
            return BAD;
        }
        if (!isRow(row) || !isWithin(n, 1, LONGEST_TOLD)) {
            return BAD;
        }
        int finding = rows[row].findingOf(i, n);
        return finding != NO_FINDING ? found(finding) : unfound(allThatFit(house, which, other, rows[row], i, n));
    }

    public int silent(int house, int row, int i, int n) {
        if (!isHouse(house) || !isRow(row) || !isWithin(n, 1, LONGEST_TOLD)) {
            return BAD;
        }
        int finding = rows[row].findingOf(i, n);
        return finding != NO_FINDING ? found(finding) : unfound(silentOnesThatFit(house, rows[row], i, n));
    }

    public long hushed(int n, int p, int what) {
        if (!now.stands()) {
            return STATE;
        }
        if (!isWithin(n, 0, NEAR) || !isWithin(p, 0, ALL_CASES) || !isWithin(what, 0, 1)) {
            return BAD;
        }
        long above = casesOverPlank(n, p);
        long below = power(ALL_CASES, now.houses - Integer.bitCount(now.hushed));
        long common = commonDivisor(above, below);
        long told = what == 0 ? above : below;
        return common > 0 ? told / common : told;
    }

    public int drawn(int n, int seed, int what) {
        if (!now.stands()) {
            return STATE;
        }
        if (!isWithin(n, 0, LONGEST_NIGHT) || !isWithin(seed, 1, LAST_SEED) || !isWithin(what, 0, 1)) {
            return BAD;
        }
        foreseen.takeFrom(now);
        long x = seed;
        int most = 0;
        for (int m = 0; m < n; m++) {
            x = x * DRAW_FACTOR % DRAW_REST;
            foreseen.takeDraw((int) x);
            foreseen.passMinute();
            most = Math.max(most, foreseen.pond);
        }
        return what == 0 ? foreseen.pond : most;
    }

    public int image(int k) {
        if (!isWithin(k, 0, IMAGES - 1)) {
            return BAD;
        }
        if (!now.stands()) {
            return STATE;
        }
        images[k].takeFrom(now);
        return 1;
    }

    public int restore(int k) {
        if (!isWithin(k, 0, IMAGES - 1)) {
            return BAD;
        }
        if (!images[k].stands()) {
            return STATE;
        }
        now.takeFrom(images[k]);
        acts.forgetAll();
        return 1;
    }

    // ---- asked

    public int kind(int one) {
        return isHouse(one) ? now.kind[one] : BAD;
    }

    public int as(int one, int kind) {
        if (!isHouse(one) || !isWithin(kind, HOUSE, NERVOUS)) {
            return BAD;
        }
        return isSuch(now.kind[one], kind) ? unfound(one) : found(KIND);
    }

    public int ask(int one, int what) {
        if (!isHouse(one) || !isWithin(what, ASK_SIZE, ASK_MARK)) {
            return BAD;
        }
        traced = 0;
        return answerOf(one, what, 0);
    }

    public int trace(int i) {
        return isWithin(i, 0, traced - 1) ? trace[i] : NONE;
    }

    public int count(int what) {
        switch (what) {
            case 0: return rowsThere();
            case 1: return now.houses;
            case 2: return now.minute;
            case 3: return now.pond;
            case 4: return now.caughtInAll();
            case 5: return now.hushed;
            case 6: return acts.kept;
            case 7: return tape.length;
            default: return BAD;
        }
    }

    public int status() {
        return latestFinding;
    }

    // ---- what many calls need

    private static boolean isWithin(int number, int least, int greatest) {
        return number >= least && number <= greatest;
    }

    private static boolean isRow(int row) {
        return isWithin(row, 0, ROWS - 1);
    }

    private boolean isHouse(int house) {
        return isWithin(house, 0, now.houses - 1);
    }

    private int found(int finding) {
        latestFinding = finding;
        return FOUND - finding;
    }

    private int unfound(int answer) {
        latestFinding = NO_FINDING;
        return answer;
    }

    private int rowsThere() {
        int there = 0;
        for (int r = 0; r < ROWS; r++) {
            if (!rows[r].isMissing()) {
                there++;
            }
        }
        return there;
    }

    // ---- how it is foretold

    private void foreseeHushed(int more, int n) {
        foreseen.takeFrom(now);
        foreseen.hushed |= more;
        foreseen.passMinutes(n);
    }

    /** Which houses, as bits; NONE, if no choice does. */
    private int fewestToHush(int place, int n) {
        int which = NONE;
        int fewest = MOST_HOUSES + 1;
        // The sets come from the least on, so of several that are as few the least is kept.
        for (int set = 0; set < 1 << now.houses; set++) {
            int many = Integer.bitCount(set);
            if ((set & now.hushed) == 0 && many < fewest) {
                foreseeHushed(set, n);
                if (foreseen.isClearAt(place)) {
                    which = set;
                    fewest = many;
                }
            }
        }
        return which;
    }

    private static int howManyOrWhich(int which, int what) {
        return which == NONE || what == 1 ? which : Integer.bitCount(which);
    }

    /** Whether the gutter of a house, from what is foreseen on, is as the row tells. */
    private boolean isAsTold(int house, Row told, int i, int n) {
        for (int m = 0; m < n; m++) {
            foreseen.passMinute();
            if (foreseen.gutter[house] != told.items[i + m]) {
                return false;
            }
        }
        return true;
    }

    /** One thing of the house is tried with all that it may be, the others stay as they are. */
    private int allThatFit(int house, int which, int other, Row told, int i, int n) {
        int least = which == TALKS ? 0 : 1;
        int greatest = which == KINDS ? NERVOUS : which == TALKS ? MOST_TALK : MOST_KEPT;
        int all = 0;
        for (int one = least; one <= greatest; one++) {
            foreseen.takeFrom(now);
            switch (which) {
                case KINDS: foreseen.kind[house] = one; break;
                case TALKS: foreseen.talk[house] = one; break;
                default: foreseen.keeps[house] = one;
            }
            if (isAsTold(other, told, i, n)) {
                all |= 1 << one;
            }
        }
        return all;
    }

    private int silentOnesThatFit(int house, Row told, int i, int n) {
        foreseen.takeFrom(now);
        int all = isAsTold(house, told, i, n) ? AS_IT_IS : 0;
        for (int one = 0; one < now.houses; one++) {
            if (!now.isHushed(one)) {
                foreseen.takeFrom(now);
                foreseen.hushed |= 1 << one;
                all |= isAsTold(house, told, i, n) ? 1 << one : 0;
            }
        }
        return all;
    }

    /** In how many cases it is over the plank, of ALL_CASES for each house that is not hushed. */
    private long casesOverPlank(int n, int p) {
        int open = now.houses - Integer.bitCount(now.hushed);
        long cases = 0;
        for (int set = 0; set < 1 << now.houses; set++) {
            if ((set & now.hushed) == 0) {
                foreseeHushed(set, n);
                if (foreseen.isOverPlank()) {
                    int many = Integer.bitCount(set);
                    cases += power(p, many) * power(ALL_CASES - p, open - many);
                }
            }
        }
        return cases;
    }

    private static long power(long base, int times) {
        long product = 1;
        for (int t = 0; t < times; t++) {
            product *= base;
        }
        return product;
    }

    private static long commonDivisor(long a, long b) {
        long greater = a;
        long rest = b;
        // Each two turns halve the numbers at least, so that no two longs need as many as these.
        for (int turn = 0; turn < 200 && rest != 0; turn++) {
            long next = greater % rest;
            greater = rest;
            rest = next;
        }
        return greater;
    }

    private static int shedBy(int kind, int talk, int keeps, int minute) {
        int slipped = keeps > 0 ? talk / keeps : 0;
        switch (kind) {
            case KINDLY: return slipped;
            case HARD: return 2 * slipped;
            case MERRY: return talk != 0 ? slipped + 1 : slipped;
            case SILENT: return keeps;
            case NERVOUS: return minute % 2 == 0 ? keeps : 0;
            default: return 0;
        }
    }

    // ---- how houses answer

    private static boolean isSuch(int kind, int wanted) {
        int nearest = kind;
        for (int up = 0; up < KINDS_IN_ALL && nearest != NO_KIND && nearest != wanted; up++) {
            nearest = PARENTS[nearest];
        }
        return nearest == wanted;
    }

    private static int bodyFor(int kind, int what) {
        int nearest = kind;
        int body = NO_BODY;
        for (int up = 0; up < KINDS_IN_ALL && nearest != NO_KIND && body == NO_BODY; up++) {
            body = what == ASK_SIZE ? SIZE_BODIES[nearest] : MARK_BODIES[nearest];
            nearest = PARENTS[nearest];
        }
        return body;
    }

    private int answerOf(int one, int what, int depth) {
        return given(one, bodyFor(now.kind[one], what), depth);
    }

    /** What a body gives. Java takes the left side of a sum first, as the document tells the bodies. */
    private int given(int one, int body, int depth) {
        if (depth > DEEPEST_BODY) {
            return 0;
        }
        leaveTrace(body);
        int deeper = depth + 1;
        switch (body) {
            case SIZE_LENT: return now.talk[one];
            case SIZE_KINDLY: return given(one, SIZE_LENT, deeper) + answerOf(one, ASK_MARK, deeper);
            case SIZE_HARD: return -given(one, SIZE_KINDLY, deeper);
            case SIZE_SILENT: return given(one, SIZE_LENT, deeper) - 100;
            case SIZE_NERVOUS: return 2 * given(one, SIZE_SILENT, deeper);
            case MARK_LENT: return one;
            case MARK_KINDLY: return given(one, MARK_LENT, deeper) + now.gutter[one];
            case MARK_MERRY: return given(one, MARK_KINDLY, deeper) - 1000;
            case MARK_SILENT: return given(one, MARK_LENT, deeper) - answerOf(one, ASK_SIZE, deeper);
            case MARK_HARD: return 2 * given(one, MARK_KINDLY, deeper);
            default: return 0;
        }
    }

    private void leaveTrace(int body) {
        if (traced < TRACE_ROOM) {
            trace[traced] = body;
            traced++;
        }
    }

    /** A row: its items are kept as ints, cut to what the lane holds. */
    static final class Row {
        final int[] items = new int[MOST_ITEMS];
        int lane = MISSING;
        int size;

        boolean isMissing() {
            return lane == MISSING;
        }

        void begin(int newLane, int n) {
            lane = newLane;
            size = n;
            Arrays.fill(items, 0);
        }

        boolean has(int i, int n) {
            // Subtracted, not added: a sum of two great numbers would wrap around.
            return i >= 0 && n >= 0 && i <= size - n;
        }

        int findingOf(int i, int n) {
            if (isMissing()) {
                return NULL;
            }
            return has(i, n) ? NO_FINDING : PLACE;
        }

        int put(int i, int v) {
            switch (lane) {
                case BYTES: items[i] = (byte) v; break;
                case SHORTS: items[i] = (short) v; break;
                default: items[i] = v;
            }
            return items[i];
        }
    }

    /** A street as it is at one time: its law, its houses, what is where. */
    static final class Street {
        final int[] kind = new int[MOST_HOUSES];
        final int[] talk = new int[MOST_HOUSES];
        final int[] keeps = new int[MOST_HOUSES];
        final int[] bars = new int[MOST_HOUSES];
        final int[] gutter = new int[MOST_HOUSES];
        final int[] caught = new int[MOST_HOUSES];
        int step;
        int plank;
        int houses;
        int minute;
        int pond;
        int hushed;

        boolean stands() {
            return houses > 0;
        }

        void takeFrom(Street other) {
            step = other.step;
            plank = other.plank;
            houses = other.houses;
            minute = other.minute;
            pond = other.pond;
            hushed = other.hushed;
            System.arraycopy(other.kind, 0, kind, 0, MOST_HOUSES);
            System.arraycopy(other.talk, 0, talk, 0, MOST_HOUSES);
            System.arraycopy(other.keeps, 0, keeps, 0, MOST_HOUSES);
            System.arraycopy(other.bars, 0, bars, 0, MOST_HOUSES);
            System.arraycopy(other.gutter, 0, gutter, 0, MOST_HOUSES);
            System.arraycopy(other.caught, 0, caught, 0, MOST_HOUSES);
        }

        void begin(int newStep, int newPlank) {
            step = newStep;
            plank = newPlank;
            houses = 0;
            minute = 0;
            pond = 0;
            hushed = 0;
        }

        boolean hasRoom() {
            return houses < MOST_HOUSES;
        }

        void build(int newKind, int newTalk, int newKeeps, int newBars) {
            if (hasRoom()) {
                kind[houses] = newKind;
                talk[houses] = newTalk;
                keeps[houses] = newKeeps;
                gutter[houses] = 0;
                putBars(houses, newBars);
                houses++;
            }
        }

        void putBars(int house, int n) {
            bars[house] = n;
            caught[house] = 0;
        }

        void lowerPond(int n) {
            pond = Math.max(0, pond - n);
        }

        void takeDraw(int x) {
            if (houses > 0) {
                talk[x % houses] = x % (MOST_TALK + 1);
            }
            if (x % 9 == 0) {
                lowerPond(NIGHT_LET_DOWN);
            }
        }

        boolean isHushed(int house) {
            return (hushed >> house & 1) == 1;
        }

        int shedsOf(int house) {
            return isHushed(house) ? 0 : shedBy(kind[house], talk[house], keeps[house], minute);
        }

        void passMinutes(int n) {
            for (int m = 0; m < n; m++) {
                passMinute();
            }
        }

        void passMinute() {
            int flows = houses > 0 ? flowOf(houses - 1) : 0;
            pond = Math.min(POND_ROOM, pond + flows);
            // From the last house up, so that what flows from the one above is still by what was so ahead.
            for (int h = houses - 1; h >= 0; h--) {
                int left = gutter[h] - flowOf(h);
                int comes = h > 0 ? behindBars(h, flowOf(h - 1)) : 0;
                gutter[h] = Math.min(GUTTER_ROOM, left + comes + shedsOf(h));
            }
            minute++;
        }

        private int flowOf(int house) {
            return Math.min(step, gutter[house]);
        }

        private int behindBars(int house, int flows) {
            if (flows == 0 || caught[house] >= bars[house]) {
                return flows;
            }
            caught[house]++;
            return flows - 1;
        }

        boolean isOverPlank() {
            return pond > plank;
        }

        boolean isClearAt(int place) {
            return place == POND ? !isOverPlank() : gutter[place] == 0;
        }

        int firstFullBars() {
            for (int h = 0; h < houses; h++) {
                if (bars[h] > 0 && caught[h] == bars[h]) {
                    return h;
                }
            }
            return NONE;
        }

        int caughtInAll() {
            int all = 0;
            for (int h = 0; h < houses; h++) {
                all += caught[h];
            }
            return all;
        }

        int inAllGutters() {
            int all = 0;
            for (int h = 0; h < houses; h++) {
                all += gutter[h];
            }
            return all;
        }

        int dryGutters() {
            int all = 0;
            for (int h = 0; h < houses; h++) {
                if (gutter[h] == 0) {
                    all |= 1 << h;
                }
            }
            return all;
        }
    }

    /** What was ahead of each of the latest acts, in a ring that is made but once. */
    static final class Acts {
        final Street[] before = new Street[ACTS_KEPT];
        int next;
        int kept;

        Acts() {
            for (int a = 0; a < ACTS_KEPT; a++) {
                before[a] = new Street();
            }
        }

        void keep(Street street) {
            before[next].takeFrom(street);
            next = (next + 1) % ACTS_KEPT;
            kept = Math.min(ACTS_KEPT, kept + 1);
        }

        boolean undoLatest(Street street) {
            if (kept == 0) {
                return false;
            }
            next = (next + ACTS_KEPT - 1) % ACTS_KEPT;
            kept--;
            street.takeFrom(before[next]);
            return true;
        }

        void forgetAll() {
            kept = 0;
        }
    }

    /** The tape, and how it is read, token by token, up to the first fault. */
    static final class Tape {
        final int[] bytes = new int[TAPE_ROOM];
        int length;
        /** Where the token begins: the place of the fault, if it has one. */
        int at;
        int fault;
        private int behind;
        /** NUMBER, NO_TOKEN, END, or a byte by itself: the grammar takes none but letters and signs. */
        private int token;
        private int value;
        private int taken;

        boolean add(int letter) {
            if (length >= TAPE_ROOM) {
                return false;
            }
            bytes[length] = letter;
            length++;
            return true;
        }

        boolean readStreet(Street street) {
            behind = 0;
            fault = 0;
            advance();
            boolean fits = readLaw(street) && readHouse(street);
            for (int more = 0; more < TAPE_ROOM && fits && token != END; more++) {
                fits = readHouse(street);
            }
            return fits;
        }

        private boolean readLaw(Street street) {
            if (!takesByte('g') || !takesNumber(1, MOST_STEP)) {
                return false;
            }
            int step = taken;
            if (!takesByte(',') || !takesNumber(0, MOST_PLANK) || !takesByte(';')) {
                return false;
            }
            street.begin(step, taken);
            return true;
        }

        private boolean readHouse(Street street) {
            int kind = kindOfSort(token);
            if (kind == NO_KIND) {
                return fails(CANNOT_STAND);
            }
            if (!street.hasRoom()) {
                return fails(NO_ROOM);
            }
            advance();
            if (!takesNumber(0, MOST_TALK)) {
                return false;
            }
            int talk = taken;
            if (!takesByte(',') || !takesNumber(1, MOST_KEPT)) {
                return false;
            }
            int keeps = taken;
            if (!takesByte(',') || !takesNumber(0, MOST_BARS) || !takesByte(';')) {
                return false;
            }
            street.build(kind, talk, keeps, taken);
            return true;
        }

        private static int kindOfSort(int sort) {
            switch (sort) {
                case 'k': return KINDLY;
                case 'h': return HARD;
                case 'm': return MERRY;
                case 's': return SILENT;
                case 'n': return NERVOUS;
                default: return NO_KIND;
            }
        }

        private boolean takesByte(int wanted) {
            if (token != wanted) {
                return fails(CANNOT_STAND);
            }
            advance();
            return true;
        }

        private boolean takesNumber(int least, int greatest) {
            if (token != NUMBER) {
                return fails(CANNOT_STAND);
            }
            if (!isWithin(value, least, greatest)) {
                return fails(NOT_AS_TOLD);
            }
            taken = value;
            advance();
            return true;
        }

        private boolean fails(int number) {
            fault = number;
            return false;
        }

        private void advance() {
            at = behind;
            if (at >= length) {
                token = END;
            } else if (isFigure(bytes[at])) {
                readFigures();
            } else {
                token = bytes[at];
                behind = at + 1;
            }
        }

        private void readFigures() {
            value = 0;
            while (behind < length && isFigure(bytes[behind])) {
                // A run that is too long for a number is none, so what it comes to does not matter.
                value = behind - at < MOST_FIGURES ? value * 10 + bytes[behind] - '0' : value;
                behind++;
            }
            token = behind - at <= MOST_FIGURES ? NUMBER : NO_TOKEN;
        }

        private static boolean isFigure(int letter) {
            return letter >= '0' && letter <= '9';
        }
    }
}

import java.util.ArrayDeque;
import java.util.ArrayList;
import java.util.Comparator;
import java.util.Deque;
import java.util.List;
import java.util.function.IntPredicate;
import java.util.function.Predicate;
import java.util.regex.Matcher;
import java.util.regex.Pattern;

/**
 * The document written a second time, for tests: slow, with the whole Java library, and by other ways than the class
 * (houses are objects whose asks Java itself dispatches, states are copied whole, a lag is played through).
 */
final class Model {
    private static final int NONE = -1000000, BAD = -1000001, STATE = -1000002, FULL = -1000003;

    interface House {
        int number();
        Being being();
        List<Integer> trace();

        default int size() {
            trace().add(10);
            return being().talk;
        }

        default int mark() {
            trace().add(20);
            return number();
        }

        int sheds(int talk, int keeps, int minute);
    }

    private abstract static class Asked implements House {
        private final int number;
        private final Being being;
        private final List<Integer> trace;

        Asked(int number, Being being, List<Integer> trace) {
            this.number = number;
            this.being = being;
            this.trace = trace;
        }

        @Override public int number() {
            return number;
        }

        @Override public Being being() {
            return being;
        }

        @Override public List<Integer> trace() {
            return trace;
        }
    }

    private static class Kindly extends Asked {
        Kindly(int number, Being being, List<Integer> trace) {
            super(number, being, trace);
        }

        @Override public int size() {
            trace().add(11);
            int base = super.size();
            return base + mark();
        }

        @Override public int mark() {
            trace().add(21);
            return super.mark() + being().gutter;
        }

        @Override public int sheds(int talk, int keeps, int minute) {
            return (int) Math.floor((double) talk / keeps);
        }
    }

    private static final class Hard extends Kindly {
        Hard(int number, Being being, List<Integer> trace) {
            super(number, being, trace);
        }

        @Override public int size() {
            trace().add(12);
            return 0 - super.size();
        }

        @Override public int mark() {
            trace().add(24);
            return super.mark() * 2;
        }

        @Override public int sheds(int talk, int keeps, int minute) {
            return 2 * super.sheds(talk, keeps, minute);
        }
    }

    private static final class Merry extends Kindly {
        Merry(int number, Being being, List<Integer> trace) {
            super(number, being, trace);
        }

        @Override public int mark() {
            trace().add(22);
            return super.mark() - 1000;
        }

        @Override public int sheds(int talk, int keeps, int minute) {
            return super.sheds(talk, keeps, minute) + (talk == 0 ? 0 : 1);
        }
    }

    private static class Silent extends Asked {
        Silent(int number, Being being, List<Integer> trace) {
            super(number, being, trace);
        }

        @Override public int size() {
            trace().add(13);
            return super.size() - 100;
        }

        @Override public int mark() {
            trace().add(23);
            int base = super.mark();
            return base - size();
        }

        @Override public int sheds(int talk, int keeps, int minute) {
            return keeps;
        }
    }

    private static final class Nervous extends Silent {
        Nervous(int number, Being being, List<Integer> trace) {
            super(number, being, trace);
        }

        @Override public int size() {
            trace().add(14);
            return super.size() * 2;
        }

        @Override public int sheds(int talk, int keeps, int minute) {
            return minute % 2 == 0 ? keeps : 0;
        }
    }

    private static final Class<?>[] KINDS =
        {House.class, Kindly.class, Hard.class, Merry.class, Silent.class, Nervous.class};

    /** What a house is and has at one time. */
    static final class Being {
        int kind, talk, keeps, bars, gutter, caught;
        boolean hushed;

        Being copy() {
            Being b = new Being();
            b.kind = kind;
            b.talk = talk;
            b.keeps = keeps;
            b.bars = bars;
            b.gutter = gutter;
            b.caught = caught;
            b.hushed = hushed;
            return b;
        }

        House as(int number, List<Integer> trace) {
            switch (kind) {
                case 1: return new Kindly(number, this, trace);
                case 2: return new Hard(number, this, trace);
                case 3: return new Merry(number, this, trace);
                case 4: return new Silent(number, this, trace);
                default: return new Nervous(number, this, trace);
            }
        }

        int sheds(int minute) {
            return hushed ? 0 : as(0, null).sheds(talk, keeps, minute);
        }
    }

    private static final class Place {
        int step, plank, minute, pond;
        final List<Being> houses = new ArrayList<>();

        Place copy() {
            Place p = new Place();
            p.step = step;
            p.plank = plank;
            p.minute = minute;
            p.pond = pond;
            for (Being b : houses) {
                p.houses.add(b.copy());
            }
            return p;
        }

        Place hushing(int set) {
            Place p = copy();
            for (int h = 0; h < houses.size(); h++) {
                p.houses.get(h).hushed |= (set & 1 << h) != 0;
            }
            return p;
        }

        Place after(int n) {
            Place p = copy();
            for (int m = 0; m < n; m++) {
                p.pass();
            }
            return p;
        }

        /** All that flows is written down first, then it comes. */
        void pass() {
            int many = houses.size();
            int[] flows = new int[many];
            int[] sheds = new int[many];
            for (int h = 0; h < many; h++) {
                flows[h] = Math.min(step, houses.get(h).gutter);
                sheds[h] = houses.get(h).sheds(minute);
            }
            for (int h = 0; h < many; h++) {
                Being b = houses.get(h);
                int comes = h == 0 ? 0 : flows[h - 1];
                if (h > 0 && b.bars > 0 && b.caught < b.bars && comes >= 1) {
                    b.caught += 1;
                    comes -= 1;
                }
                b.gutter += comes + sheds[h] - flows[h];
                b.gutter = b.gutter > 999 ? 999 : b.gutter;
            }
            pond += flows[many - 1];
            pond = pond > 9999 ? 9999 : pond;
            minute++;
        }

        boolean over() {
            return pond > plank;
        }

        int bits(Predicate<Being> which) {
            int bits = 0;
            for (int h = 0; h < houses.size(); h++) {
                bits += which.test(houses.get(h)) ? 1 << h : 0;
            }
            return bits;
        }

        int hushed() {
            return bits(b -> b.hushed);
        }

        int caught() {
            return houses.stream().mapToInt(b -> b.caught).sum();
        }
    }

    private final long[][] rows = new long[8][];
    private final int[] lanes = new int[8];
    private final StringBuilder tape = new StringBuilder();
    private Place now;
    private final Deque<Place> acts = new ArrayDeque<>();
    private final Place[] images = new Place[2];
    private List<Integer> trace = new ArrayList<>();
    private int fault, status;

    long call(String name, int... a) {
        switch (name) {
            case "row": return row(a[0], a[1], a[2]);
            case "set": return set(a[0], a[1], a[2]);
            case "copy": return copy(a[0], a[1], a[2], a[3], a[4]);
            case "drop": return drop(a[0]);
            case "feed": return feed(a[0]);
            case "street": return street();
            case "fault": return fault;
            case "undo": return undo();
            case "minutes": return minutes(a[0]);
            case "talk": return talk(a[0], a[1]);
            case "hush": return hush(a[0], a[1]);
            case "bars": return bars(a[0], a[1]);
            case "letDown": return letDown(a[0]);
            case "house": return house(a[0], a[1]);
            case "stand": return stand(a[0]);
            case "ahead": return no(a[0], 0, 99, a[1]) ? BAD : now.after(a[1]).houses.get(a[0]).gutter;
            case "pond": return pond(a[0], a[1]);
            case "over": return now == null ? STATE : first(0, 200, n -> now.after(n).over());
            case "full": return full(a[0]);
            case "most": return most(a[0], a[1], a[2]);
            case "hushes": return hushes(a[0], a[1], a[2]);
            case "spares": return spares(a[0], a[1]);
            case "catches": return catches(a[0], a[1]);
            case "from": return from(a[0], a[1]);
            case "loud": return loud(a[0], a[1]);
            case "dry": return now == null ? STATE : now.bits(b -> b.gutter == 0);
            case "lag": return lag(a[0]);
            case "who": return who(a[0], a[1], a[2], a[3], a[4], a[5]);
            case "silent": return silent(a[0], a[1], a[2], a[3]);
            case "hushed": return hushed(a[0], a[1], a[2]);
            case "drawn": return drawn(a[0], a[1], a[2]);
            case "image": return image(a[0]);
            case "restore": return restore(a[0]);
            case "kind": return isHouse(a[0]) ? now.houses.get(a[0]).kind : BAD;
            case "as": return as(a[0], a[1]);
            case "ask": return ask(a[0], a[1]);
            case "trace": return a[0] >= 0 && a[0] < Math.min(16, trace.size()) ? trace.get(a[0]) : NONE;
            case "count": return count(a[0]);
            case "status": return status;
            default: throw new IllegalArgumentException(name);
        }
    }

    private boolean isHouse(int h) {
        return now != null && h >= 0 && h < now.houses.size();
    }

    private static boolean not(int n, int least, int most) {
        return n < least || n > most;
    }

    private boolean no(int house, int least, int most, int n) {
        return !isHouse(house) || not(n, least, most);
    }

    private long end(int finding, long answer) {
        status = finding;
        return finding == 0 ? answer : -1000010 - finding;
    }

    private static int first(int from, int to, IntPredicate is) {
        for (int n = from; n <= to; n++) {
            if (is.test(n)) {
                return n;
            }
        }
        return NONE;
    }

    private long row(int r, int lane, int n) {
        if (not(r, 0, 7) || not(lane, 0, 2) || n > 40) {
            return BAD;
        }
        if (n < 0) {
            return end(4, 0);
        }
        rows[r] = new long[n];
        lanes[r] = lane;
        return end(0, n);
    }

    private int place(int r, long i, long n) {
        if (rows[r] == null) {
            return 1;
        }
        return i < 0 || n < 0 || i + n > rows[r].length ? 2 : 0;
    }

    private long set(int r, int i, int v) {
        if (not(r, 0, 7)) {
            return BAD;
        }
        int finding = place(r, i, 1);
        if (finding != 0) {
            return end(finding, 0);
        }
        int shift = 32 - (8 << lanes[r]);
        rows[r][i] = v << shift >> shift;
        return end(0, rows[r][i]);
    }

    private long copy(int a, int i, int b, int j, int n) {
        if (not(a, 0, 7) || not(b, 0, 7)) {
            return BAD;
        }
        if (rows[a] == null || rows[b] == null) {
            return end(1, 0);
        }
        if (lanes[a] != lanes[b]) {
            return end(5, 0);
        }
        if (place(a, i, n) + place(b, j, n) > 0) {
            return end(2, 0);
        }
        long[] ahead = rows[a].clone();
        for (int k = 0; k < n; k++) {
            rows[b][j + k] = ahead[i + k];
        }
        return end(0, n);
    }

    private long drop(int r) {
        if (not(r, 0, 7)) {
            return BAD;
        }
        if (rows[r] == null) {
            return end(1, 0);
        }
        int many = rows[r].length;
        rows[r] = null;
        return end(0, many);
    }

    private long feed(int letter) {
        if (not(letter, 0, 255)) {
            return BAD;
        }
        if (tape.length() == 120) {
            return FULL;
        }
        tape.append((char) letter);
        return tape.length();
    }

    /** Each token is held against what is due there: a letter out of some, a number between two, a sign. */
    private long street() {
        String text = tape.toString();
        tape.setLength(0);
        String[] law = {"g", "1-9", ",", "0-99", ";"};
        String[] house = {"khmsn", "0-20", ",", "1-9", ",", "0-9", ";"};
        Matcher m = Pattern.compile("[0-9]+|.", Pattern.DOTALL).matcher(text);
        List<Integer> numbers = new ArrayList<>();
        Place p = new Place();
        int count = 0;
        while (m.find()) {
            String due = count < 5 ? law[count] : house[(count - 5) % 7];
            int number = faultOf(m.group(), due, p.houses.size() == 7);
            if (number != 0) {
                return faulty(number, m.start());
            }
            if (Character.isDigit(m.group().charAt(0))) {
                numbers.add(Integer.parseInt(m.group()));
            } else if (due.equals("khmsn")) {
                numbers.add(due.indexOf(m.group()) + 1);
            }
            count++;
            if (count == 5) {
                p.step = numbers.get(0);
                p.plank = numbers.get(1);
            } else if (count > 5 && (count - 5) % 7 == 0) {
                p.houses.add(new Being());
                Being b = p.houses.get(p.houses.size() - 1);
                b.kind = numbers.get(numbers.size() - 4);
                b.talk = numbers.get(numbers.size() - 3);
                b.keeps = numbers.get(numbers.size() - 2);
                b.bars = numbers.get(numbers.size() - 1);
            }
        }
        if (p.houses.isEmpty() || (count - 5) % 7 != 0) {
            return faulty(1, text.length());
        }
        now = p;
        acts.clear();
        return p.houses.size();
    }

    private static int faultOf(String token, String due, boolean isFull) {
        boolean isNumber = token.matches("[0-9]{1,2}");
        if (due.contains("-")) {
            String[] ends = due.split("-");
            if (!isNumber) {
                return 1;
            }
            return not(Integer.parseInt(token), Integer.parseInt(ends[0]), Integer.parseInt(ends[1])) ? 2 : 0;
        }
        if (token.length() > 1 || !due.contains(token)) {
            return 1;
        }
        return isFull && due.equals("khmsn") ? 3 : 0;
    }

    private long faulty(int number, int at) {
        fault = number;
        return -1000100 - at;
    }

    private long undo() {
        if (acts.isEmpty()) {
            return STATE;
        }
        now = acts.pop();
        return acts.size();
    }

    private void act() {
        acts.push(now.copy());
        if (acts.size() > 24) {
            acts.removeLast();
        }
    }

    private long minutes(int n) {
        if (now == null) {
            return STATE;
        }
        if (not(n, 1, 24)) {
            return BAD;
        }
        if (now.minute + n > 999) {
            return FULL;
        }
        for (int m = 0; m < n; m++) {
            act();
            now.pass();
        }
        return now.pond;
    }

    private long talk(int house, int n) {
        if (no(house, 0, 20, n)) {
            return BAD;
        }
        act();
        int was = now.houses.get(house).talk;
        now.houses.get(house).talk = n;
        return was;
    }

    private long hush(int house, int on) {
        if (no(house, 0, 1, on)) {
            return BAD;
        }
        if (now.houses.get(house).hushed == (on == 1)) {
            return STATE;
        }
        act();
        now.houses.get(house).hushed = on == 1;
        return now.hushed();
    }

    private long bars(int house, int n) {
        if (no(house, 0, 9, n)) {
            return BAD;
        }
        act();
        Being b = now.houses.get(house);
        int was = b.caught;
        b.bars = n;
        b.caught = 0;
        return was;
    }

    private long letDown(int n) {
        if (now == null) {
            return STATE;
        }
        if (not(n, 1, 99)) {
            return BAD;
        }
        act();
        now.pond = now.pond < n ? 0 : now.pond - n;
        return now.pond;
    }

    private long house(int house, int what) {
        if (no(house, 0, 6, what)) {
            return BAD;
        }
        Being b = now.houses.get(house);
        int[] all = {b.talk, b.keeps, b.bars, b.gutter, b.caught, b.sheds(now.minute), b.hushed ? 1 : 0};
        return all[what];
    }

    private long stand(int what) {
        if (now == null) {
            return STATE;
        }
        int gutters = now.houses.stream().mapToInt(b -> b.gutter).sum();
        int[] all = {now.pond, now.over() ? 1 : 0, now.hushed(), now.caught(), gutters};
        return not(what, 0, 4) ? BAD : all[what];
    }

    private long pond(int n, int what) {
        if (now == null) {
            return STATE;
        }
        if (not(n, 0, 99) || not(what, 0, 1)) {
            return BAD;
        }
        return what == 0 ? now.after(n).pond : now.after(n).caught();
    }

    private long full(int what) {
        if (now == null) {
            return STATE;
        }
        if (not(what, 0, 1)) {
            return BAD;
        }
        Predicate<Being> isFull = b -> b.bars != 0 && b.bars == b.caught;
        int n = first(0, 99, m -> now.after(m).bits(isFull) != 0);
        if (n == NONE || what == 1) {
            return n;
        }
        return Integer.numberOfTrailingZeros(now.after(n).bits(isFull));
    }

    private long most(int house, int n, int what) {
        if (no(house, 0, 99, n) || not(what, 0, 1)) {
            return BAD;
        }
        int most = 0;
        for (int m = 0; m <= n; m++) {
            most = Math.max(most, now.after(m).houses.get(house).gutter);
        }
        int much = most;
        return what == 0 ? much : first(0, n, m -> now.after(m).houses.get(house).gutter == much);
    }

    private long fewest(int n, int what, Predicate<Place> good) {
        List<Integer> sets = new ArrayList<>();
        for (int set = 0; set < 1 << now.houses.size(); set++) {
            if ((set & now.hushed()) == 0) {
                sets.add(set);
            }
        }
        sets.sort(Comparator.<Integer>comparingInt(Integer::bitCount).thenComparingInt(s -> s));
        for (int set : sets) {
            if (good.test(now.hushing(set).after(n))) {
                return what == 0 ? Integer.bitCount(set) : set;
            }
        }
        return NONE;
    }

    private long hushes(int house, int n, int what) {
        if (no(house, 1, 40, n) || not(what, 0, 1)) {
            return BAD;
        }
        return fewest(n, what, p -> p.houses.get(house).gutter == 0);
    }

    private long spares(int n, int what) {
        if (now == null) {
            return STATE;
        }
        if (not(n, 1, 40) || not(what, 0, 1)) {
            return BAD;
        }
        return fewest(n, what, p -> p.pond <= p.plank);
    }

    private long catches(int n, int what) {
        if (now == null) {
            return STATE;
        }
        if (not(n, 1, 40) || not(what, 0, 1)) {
            return BAD;
        }
        int[] ponds = new int[now.houses.size()];
        int best = 0;
        for (int h = 0; h < ponds.length; h++) {
            Place p = now.copy();
            p.houses.get(h).bars = 9;
            p.houses.get(h).caught = 0;
            ponds[h] = p.after(n).pond;
            best = ponds[h] < ponds[best] ? h : best;
        }
        return what == 0 ? best : ponds[best];
    }

    private long from(int house, int n) {
        if (no(house, 1, 40, n)) {
            return BAD;
        }
        return 1000 + now.after(n).pond - now.hushing(1 << house).after(n).pond;
    }

    private long loud(int house, int n) {
        if (no(house, 1, 99, n)) {
            return BAD;
        }
        return first(0, 20, talk -> {
            Place p = now.copy();
            p.houses.get(house).talk = talk;
            return p.after(n).over();
        });
    }

    private long lag(int house) {
        if (!isHouse(house)) {
            return BAD;
        }
        Place p = now.hushing(127);
        p.pond = 0;
        for (int h = 0; h < p.houses.size(); h++) {
            Being b = p.houses.get(h);
            b.bars = 0;
            b.caught = 0;
            b.gutter = h == house ? b.gutter : 0;
        }
        return first(1, 99, n -> p.after(n).pond > 0);
    }

    private boolean fits(Place p, int house, int row, int i, int n) {
        for (int m = 1; m <= n; m++) {
            if (p.after(m).houses.get(house).gutter != rows[row][i + m - 1]) {
                return false;
            }
        }
        return true;
    }

    private long who(int house, int which, int other, int row, int i, int n) {
        if (!isHouse(house) || not(which, 0, 2) || !isHouse(other) || not(row, 0, 7) || not(n, 1, 12)) {
            return BAD;
        }
        int finding = place(row, i, n);
        if (finding != 0) {
            return end(finding, 0);
        }
        int bits = 0;
        int[] least = {1, 0, 1};
        int[] most = {5, 20, 9};
        for (int v = least[which]; v <= most[which]; v++) {
            Place p = now.copy();
            Being b = p.houses.get(house);
            b.kind = which == 0 ? v : b.kind;
            b.talk = which == 1 ? v : b.talk;
            b.keeps = which == 2 ? v : b.keeps;
            bits += fits(p, other, row, i, n) ? 1 << v : 0;
        }
        return end(0, bits);
    }

    private long silent(int house, int row, int i, int n) {
        if (!isHouse(house) || not(row, 0, 7) || not(n, 1, 12)) {
            return BAD;
        }
        int finding = place(row, i, n);
        if (finding != 0) {
            return end(finding, 0);
        }
        int bits = fits(now, house, row, i, n) ? 128 : 0;
        for (int h = 0; h < now.houses.size(); h++) {
            bits += !now.houses.get(h).hushed && fits(now.hushing(1 << h), house, row, i, n) ? 1 << h : 0;
        }
        return end(0, bits);
    }

    /** House by house: in p of 10 cases it is hushed, in the others not. */
    private long cases(int house, int set, int n, int p) {
        if (house == now.houses.size()) {
            return now.hushing(set).after(n).over() ? 1 : 0;
        }
        if (now.houses.get(house).hushed) {
            return cases(house + 1, set, n, p);
        }
        return p * cases(house + 1, set | 1 << house, n, p) + (10 - p) * cases(house + 1, set, n, p);
    }

    private long hushed(int n, int p, int what) {
        if (now == null) {
            return STATE;
        }
        if (not(n, 0, 40) || not(p, 0, 10) || not(what, 0, 1)) {
            return BAD;
        }
        long above = cases(0, 0, n, p);
        long below = 1;
        for (Being b : now.houses) {
            below *= b.hushed ? 1 : 10;
        }
        for (long by : new long[] {2, 5}) {
            while (above != 0 && above % by == 0 && below % by == 0) {
                above /= by;
                below /= by;
            }
        }
        return what == 0 ? above : above == 0 ? 1 : below;
    }

    private long drawn(int n, int seed, int what) {
        if (now == null) {
            return STATE;
        }
        if (not(n, 0, 60) || not(seed, 1, 999999) || not(what, 0, 1)) {
            return BAD;
        }
        Place p = now.copy();
        long x = seed;
        int most = 0;
        for (int m = 0; m < n; m++) {
            x = Math.floorMod(Math.multiplyExact(x, 16807L), (1L << 31) - 1);
            p.houses.get((int) (x % p.houses.size())).talk = (int) (x % 21);
            p.pond = x % 9 != 0 ? p.pond : p.pond > 5 ? p.pond - 5 : 0;
            p.pass();
            most = p.pond > most ? p.pond : most;
        }
        return what == 0 ? p.pond : most;
    }

    private long image(int k) {
        if (not(k, 0, 1)) {
            return BAD;
        }
        if (now == null) {
            return STATE;
        }
        images[k] = now.copy();
        return 1;
    }

    private long restore(int k) {
        if (not(k, 0, 1)) {
            return BAD;
        }
        if (images[k] == null) {
            return STATE;
        }
        now = images[k].copy();
        acts.clear();
        return 1;
    }

    private long as(int one, int kind) {
        if (no(one, 0, 5, kind)) {
            return BAD;
        }
        return end(KINDS[kind].isInstance(now.houses.get(one).as(one, trace)) ? 0 : 3, one);
    }

    private long ask(int one, int what) {
        if (no(one, 0, 1, what)) {
            return BAD;
        }
        trace = new ArrayList<>();
        House house = now.houses.get(one).as(one, trace);
        return what == 0 ? house.size() : house.mark();
    }

    private long count(int what) {
        int there = 0;
        for (long[] row : rows) {
            there += row == null ? 0 : 1;
        }
        Place p = now == null ? new Place() : now;
        int[] all = {there, p.houses.size(), p.minute, p.pond, p.caught(), p.hushed(), acts.size(), tape.length()};
        return not(what, 0, 7) ? BAD : all[what];
    }
}

import java.util.ArrayList;
import java.util.Arrays;
import java.util.HashMap;
import java.util.HashSet;
import java.util.List;
import java.util.Map;
import java.util.Set;
import java.util.TreeSet;

/** The document once more, as simply as can be: nothing is kept that can be worked out, speed is of no account. */
public final class PlainModel {
    static final int[] WEIGHT = {8, 4, 6, 16, 4, 0};
    static final int[] SPAN = {20, 35, 30, 5, 45, 20};

    static final class R {
        int kind, source, x, y, day, value, heading, edition;
    }

    static final class RuleText {
        String text;
        int told, struck = 1000;
    }

    static final class Leg {
        boolean sight;
        int a, b;
    }

    static final class Trip {
        int x, y;
        List<Leg> legs = new ArrayList<>();

        Trip again() {
            Trip t = new Trip();
            t.x = x;
            t.y = y;
            t.legs = new ArrayList<>(legs);
            return t;
        }
    }

    static final class Epoch {
        int day;
        int[] c = new int[4];

        Epoch again() {
            Epoch e = new Epoch();
            e.day = day;
            e.c = c.clone();
            return e;
        }
    }

    static final class Map0 {
        int day;
        List<Epoch> epochs;
    }

    static final class All {
        Set<Integer> land = new HashSet<>();
        List<R> readings = new ArrayList<>();
        List<RuleText> rules = new ArrayList<>();
        List<Trip> trips = new ArrayList<>();
        List<Epoch> epochs = new ArrayList<>();
        List<Map0> charts = new ArrayList<>();
        List<int[]> offers = new ArrayList<>();
        Map<Integer, Integer> iron = new HashMap<>();
        int[] settings = {2, 30, 0};
        int edition;

        All again() {
            All a = new All();
            a.land.addAll(land);
            a.readings.addAll(readings);
            for (RuleText r : rules) {
                RuleText c = new RuleText();
                c.text = r.text;
                c.told = r.told;
                c.struck = r.struck;
                a.rules.add(c);
            }
            for (Trip t : trips) {
                a.trips.add(t.again());
            }
            a.epochs = copyOf(epochs);
            a.charts.addAll(charts);
            a.offers.addAll(offers);
            a.iron.putAll(iron);
            a.settings = settings.clone();
            a.edition = edition;
            return a;
        }
    }

    /** What a SHELF holds: an R, byte[], short[], int[] or null. */
    private final Object[] shelves = new Object[8];
    private All all = new All();
    private All image;

    static List<Epoch> copyOf(List<Epoch> epochs) {
        List<Epoch> out = new ArrayList<>();
        for (Epoch e : epochs) {
            out.add(e.again());
        }
        return out;
    }

    static boolean in(int n, int a, int b) {
        return a <= n && n <= b;
    }

    // ---- days

    static int monthLength(int y, int m, boolean old) {
        boolean leap = y % 4 == 0;
        if (!old && y % 100 == 0 && y % 400 != 0) {
            leap = false;
        }
        return m == 2 ? leap ? 29 : 28 : m == 4 || m == 6 || m == 9 || m == 11 ? 30 : 31;
    }

    /** All DATES of a calendar, counted one by one; -5 for what is none. */
    private static final Map<Long, Integer> OLD = new HashMap<>();
    private static final Map<Long, Integer> NEW = new HashMap<>();
    private static final Map<Integer, int[]> OLD_BACK = new HashMap<>();
    private static final Map<Integer, int[]> NEW_BACK = new HashMap<>();

    static {
        countUp(OLD, OLD_BACK, -2, true);
        countUp(NEW, NEW_BACK, 0, false);
    }

    private static void countUp(Map<Long, Integer> days, Map<Integer, int[]> dates, int first, boolean old) {
        int day = first;
        for (int y = 1; y <= 2400; y++) {
            for (int m = 1; m <= 12; m++) {
                for (int d = 1; d <= monthLength(y, m, old); d++) {
                    days.put(key(y, m, d), day);
                    dates.put(day, new int[] {y, m, d});
                    day++;
                }
            }
        }
    }

    private static long key(int y, int m, int d) {
        return in(y, 1, 2400) && in(m, 1, 12) && in(d, 1, 31) ? y * 10000L + m * 100 + d : -1;
    }

    public int day(int year, int month, int day, boolean old) {
        return (old ? OLD : NEW).getOrDefault(key(year, month, day), -5);
    }

    public int date(int day, boolean old, int what) {
        if (!in(day, 0, 800000) || !in(what, 0, 2)) {
            return -1;
        }
        return (old ? OLD_BACK : NEW_BACK).get(day)[what];
    }

    public int mayBe(int style, int year, int month, int day, int i) {
        if (!in(style, 0, 3) || i < -1) {
            return -1;
        }
        TreeSet<Integer> days = new TreeSet<>();
        if (style == 0 || style == 3) {
            days.add(day(year, month, day, true));
        }
        if (style == 1 || style == 3) {
            days.add(day(year, month, day, false));
        }
        if (in(year, 1, 2400) && (style == 2 || style == 3)) {
            days.add(day(month * 100 + day < 325 ? year + 1 : year, month, day, true));
        }
        days.remove(-5);
        List<Integer> list = new ArrayList<>(days);
        return i == -1 ? list.size() : i < list.size() ? list.get(i) : -5;
    }

    public int land(int x0, int x1, int y, boolean is) {
        if (!in(x0, 0, 35) || !in(x1, x0, 35) || !in(y, 0, 17)) {
            return -1;
        }
        int n = 0;
        for (int x = x0; x <= x1; x++) {
            if (is ? all.land.add(18 * x + y) : all.land.remove(18 * x + y)) {
                n++;
            }
        }
        return n;
    }

    // ---- readings

    public int reading(int kind, int source, int place, int day, int value, int told) {
        if (!in(kind, 0, 5) || !in(source, 0, 9) || !in(place, 0, 647) || !in(day, 0, 800000) || !in(value, -1800, 1799)
            || !in(told, 0, kind == 1 ? 7 : 0)) {
            return -1;
        }
        if (all.readings.size() == 80) {
            return -2;
        }
        R r = new R();
        r.kind = kind;
        r.source = source;
        r.x = place / 18;
        r.y = place % 18;
        r.day = day;
        r.value = value;
        r.heading = told;
        r.edition = all.edition;
        all.readings.add(r);
        return all.readings.size() - 1;
    }

    private R at(int i) {
        return in(i, 0, all.readings.size() - 1) ? all.readings.get(i) : null;
    }

    public int about(int reading, int what) {
        R r = at(reading);
        if (r == null || !in(what, 0, 5)) {
            return -1;
        }
        return new int[] {r.kind, r.source, 18 * r.x + r.y, r.day, r.heading, r.edition}[what];
    }

    public long value(int reading) {
        return some(at(reading)).value;
    }

    private static <T> T some(T t) {
        if (t == null) {
            throw new IllegalArgumentException();
        }
        return t;
    }

    // ---- rules

    public int edition(int e) {
        if (!in(e, all.edition, 60)) {
            return -1;
        }
        int was = all.edition;
        all.edition = e;
        return was;
    }

    private static final class Fault extends RuntimeException {
        private static final long serialVersionUID = 1L;
        final int at;

        Fault(int at) {
            this.at = at;
        }
    }

    /** Reads and works out at once, by the grammar's own words; values are of no account when only read. */
    private static final class Reader {
        final String t;
        final Map<Character, Integer> fields;
        int i;

        Reader(String t, Map<Character, Integer> fields) {
            this.t = t;
            this.fields = fields;
        }

        char peek() {
            return i < t.length() ? t.charAt(i) : (char) 0;
        }

        boolean eat(char c) {
            boolean is = i < t.length() && t.charAt(i) == c;
            i += is ? 1 : 0;
            return is;
        }

        void must(char c) {
            if (!eat(c)) {
                throw new Fault(i);
            }
        }

        int whole() {
            if (!eat('k') && !eat('g') && !eat('p')) {
                throw new Fault(i);
            }
            must(':');
            int v = expr(0);
            if (i < t.length()) {
                throw new Fault(i);
            }
            return v;
        }

        int expr(int deep) {
            int sum = sum(deep);
            if (!eat('?')) {
                return sum;
            }
            int a = expr(deep);
            must(':');
            int b = expr(deep);
            return sum > 0 ? a : b;
        }

        int sum(int deep) {
            int v = product(deep);
            while (true) {
                if (eat('+')) {
                    v += product(deep);
                } else if (eat('-')) {
                    v -= product(deep);
                } else {
                    return v;
                }
            }
        }

        int product(int deep) {
            int v = atom(deep);
            while (true) {
                if (eat('*')) {
                    v *= atom(deep);
                } else if (eat('/')) {
                    int by = atom(deep);
                    v = by == 0 ? 0 : v / by;
                } else {
                    return v;
                }
            }
        }

        int atom(int deep) {
            if (peek() == '(' && deep < 8) {
                i++;
                int v = expr(deep + 1);
                must(')');
                return v;
            }
            if (fields.containsKey(peek())) {
                int v = fields.get(peek());
                i++;
                return v;
            }
            if (!in(peek(), '0', '9')) {
                throw new Fault(i);
            }
            if (eat('0')) {
                return 0;
            }
            int v = 0;
            for (int k = 0; k < 4 && in(peek(), '0', '9'); k++) {
                v = 10 * v + peek() - '0';
                i++;
            }
            return v;
        }
    }

    private static Map<Character, Integer> fields(R r, boolean night) {
        Map<Character, Integer> f = new HashMap<>();
        f.put('k', r.kind);
        f.put('s', r.source);
        f.put('d', r.day / 365);
        f.put('x', r.x);
        f.put('y', r.y);
        f.put('v', r.value);
        f.put('h', r.heading);
        f.put('w', WEIGHT[r.kind]);
        f.put('q', SPAN[r.kind]);
        f.put('n', night ? 1 : 0);
        return f;
    }

    static int faultOf(byte[] row) {
        StringBuilder s = new StringBuilder();
        for (byte b : row) {
            s.append((char) (b & 255));
        }
        try {
            new Reader(s.toString(), fields(new R(), false)).whole();
        } catch (Fault f) {
            return f.at;
        }
        return -4;
    }

    private int missing(int d, Class<?> wanted) {
        if (!in(d, 0, 7)) {
            return -1;
        }
        return shelves[d] == null ? -11 : wanted.isInstance(shelves[d]) ? 0 : -12;
    }

    public int fault(int d) {
        int m = missing(d, byte[].class);
        return m != 0 ? m : faultOf((byte[]) shelves[d]);
    }

    public int rule(int d) {
        if (!in(d, 0, 7)) {
            return -1;
        }
        if (all.rules.size() == 20) {
            return -2;
        }
        int fault = fault(d);
        if (fault == -11 || fault == -12) {
            return fault;
        }
        if (fault != -4) {
            return -100 - fault;
        }
        RuleText r = new RuleText();
        r.text = new String((byte[]) shelves[d], java.nio.charset.StandardCharsets.ISO_8859_1);
        r.told = all.edition;
        all.rules.add(r);
        return all.rules.size() - 1;
    }

    public int strike(int rule) {
        if (!in(rule, 0, all.rules.size() - 1)) {
            return -1;
        }
        if (all.rules.get(rule).struck != 1000) {
            return -3;
        }
        all.rules.get(rule).struck = all.edition;
        return 1;
    }

    public int force(int purpose, int e) {
        if (!in(purpose, 0, 2) || !in(e, 0, all.edition)) {
            return -1;
        }
        int found = -4;
        for (int i = 0; i < all.rules.size(); i++) {
            RuleText r = all.rules.get(i);
            if (r.text.charAt(0) == "kgp".charAt(purpose) && r.told <= e && !(r.struck <= e)) {
                found = i;
            }
        }
        return found;
    }

    private int by(int purpose, R r, int e, int without) {
        int rule = force(purpose, e);
        return rule < 0 ? without : new Reader(all.rules.get(rule).text, fields(r, isNight(r.day))).whole();
    }

    private int weight(R r, int e) {
        return by(0, r, e, 0) != 0 ? 0 : Math.max(0, Math.min(100, by(1, r, e, WEIGHT[r.kind])));
    }

    private int span(R r, int e) {
        return Math.max(1, Math.min(1800, by(2, r, e, SPAN[r.kind])));
    }

    public int counts(int reading, int what, int e) {
        R r = at(reading);
        if (r == null || !in(what, 0, 1) || !in(e, 0, all.edition)) {
            return -1;
        }
        return r.edition > e ? -3 : what == 0 ? weight(r, e) : span(r, e);
    }

    private boolean isNight(int day) {
        Set<Integer> shaken = new HashSet<>();
        for (R r : all.readings) {
            if (r.kind != 3 && r.kind != 4 || r.day != day) {
                continue;
            }
            int sum = 0;
            int n = 0;
            for (R o : all.readings) {
                if ((o.kind == 3 || o.kind == 4) && o.x == r.x && o.y == r.y) {
                    sum += o.value;
                    n++;
                }
            }
            if (Math.abs(r.value - sum / n) > all.settings[1]) {
                shaken.add(18 * r.x + r.y);
            }
        }
        return shaken.size() >= all.settings[0];
    }

    public int night(int reading) {
        return at(reading) == null ? -1 : isNight(at(reading).day) ? 1 : 0;
    }

    public int set(int what, int n) {
        if (what == 0 && in(n, 1, 9) || what == 1 && in(n, 0, 999) || what == 2 && in(n, 0, 1000)) {
            int was = all.settings[what];
            all.settings[what] = n;
            return was;
        }
        return -1;
    }

    // ---- voyages

    public int voyage(int x, int y) {
        if (!in(x, 0, 35) || !in(y, 0, 17)) {
            return -1;
        }
        if (all.trips.size() == 6) {
            return -2;
        }
        Trip t = new Trip();
        t.x = x;
        t.y = y;
        all.trips.add(t);
        return all.trips.size() - 1;
    }

    private int goOn(int voyage, boolean sight, int a, int b) {
        List<Leg> legs = all.trips.get(voyage).legs;
        if (legs.size() == 30) {
            return -2;
        }
        Leg l = new Leg();
        l.sight = sight;
        l.a = a;
        l.b = b;
        legs.add(l);
        return legs.size();
    }

    public int leg(int voyage, int east, int north) {
        if (!in(voyage, 0, all.trips.size() - 1) || !in(east, -9, 9) || !in(north, -9, 9)) {
            return -1;
        }
        return goOn(voyage, false, east, north);
    }

    public int sight(int voyage, int x, int y) {
        if (!in(voyage, 0, all.trips.size() - 1) || !in(x, 0, 35) || !in(y, 0, 17)) {
            return -1;
        }
        return goOn(voyage, true, x, y);
    }

    /** x, y and SPAN behind LEG i, from the told LEGS each time anew. */
    private static int[] place(Trip t, int i) {
        int from = -1;
        int sx = t.x;
        int sy = t.y;
        for (int k = 0; k <= i; k++) {
            if (t.legs.get(k).sight) {
                from = k;
                sx = t.legs.get(k).a;
                sy = t.legs.get(k).b;
            }
        }
        int x = sx;
        int y = sy;
        for (int k = from + 1; k <= i; k++) {
            x += t.legs.get(k).a;
            y += t.legs.get(k).b;
        }
        int to = i + 1;
        while (to < t.legs.size() && !t.legs.get(to).sight) {
            to++;
        }
        int since = i - from;
        if (since == 0 || to == t.legs.size()) {
            return new int[] {x, y, since};
        }
        int ex = x;
        int ey = y;
        for (int k = i + 1; k < to; k++) {
            ex += t.legs.get(k).a;
            ey += t.legs.get(k).b;
        }
        int n = to - from - 1;
        int a = ex - t.legs.get(to).a;
        int b = ey - t.legs.get(to).b;
        return new int[] {x - a * since / n, y - b * since / n, Math.min(since, n - since)};
    }

    public int closed(int voyage, int i, int what) {
        if (!in(voyage, 0, all.trips.size() - 1) || !in(i, -1, all.trips.get(voyage).legs.size() - 1) || !in(what, 0, 1)) {
            return -1;
        }
        int[] p = place(all.trips.get(voyage), i);
        return what == 0 ? 1000 * (p[0] + 500) + p[1] + 500 : p[2];
    }

    public int shift(int voyage) {
        if (!in(voyage, 0, all.trips.size() - 1)) {
            return -1;
        }
        Trip t = all.trips.get(voyage);
        for (int far = 0; far <= 18; far++) {
            for (int east = -9; east <= 9; east++) {
                for (int north = -9; north <= 9; north++) {
                    if (Math.abs(east) + Math.abs(north) == far && clear(t, east, north)) {
                        return 100 * (east + 10) + north + 10;
                    }
                }
            }
        }
        return -4;
    }

    private boolean clear(Trip t, int east, int north) {
        for (int i = -1; i < t.legs.size(); i++) {
            int[] p = place(t, i);
            int x = p[0] + east;
            int y = p[1] + north;
            if (!in(x, 0, 35) || !in(y, 0, 17) || all.land.contains(18 * x + y)) {
                return false;
            }
        }
        return true;
    }

    // ---- the field

    public int epoch(int day) {
        int n = all.epochs.size();
        if (!in(day, n == 0 ? 0 : all.epochs.get(n - 1).day + 1, 800000)) {
            return -1;
        }
        if (n == 4) {
            return -2;
        }
        Epoch e = new Epoch();
        e.day = day;
        all.epochs.add(e);
        return n;
    }

    public int number(int epoch, int which, int v) {
        if (!in(epoch, 0, all.epochs.size() - 1) || !in(which, 0, 3) || !in(v, -9999, 9999)) {
            return -1;
        }
        int was = all.epochs.get(epoch).c[which];
        all.epochs.get(epoch).c[which] = v;
        return was == v ? 0 : 1;
    }

    public long told(int epoch, int which) {
        if (!in(epoch, 0, all.epochs.size() - 1) || !in(which, 0, 3)) {
            throw new IllegalArgumentException();
        }
        return all.epochs.get(epoch).c[which];
    }

    private static long valueBy(Epoch e, int x, int y) {
        return e.c[0] + (long) e.c[1] * x / 10 + (long) e.c[2] * y / 10 + (long) e.c[3] * x * y / 100;
    }

    static long fieldOf(List<Epoch> epochs, int x, int y, int day) {
        if (epochs.isEmpty()) {
            return 0;
        }
        if (day <= epochs.get(0).day) {
            return valueBy(epochs.get(0), x, y);
        }
        for (int i = 0; i + 1 < epochs.size(); i++) {
            Epoch a = epochs.get(i);
            Epoch b = epochs.get(i + 1);
            if (a.day <= day && day < b.day) {
                long va = valueBy(a, x, y);
                return va + (valueBy(b, x, y) - va) * (day - a.day) / (b.day - a.day);
            }
        }
        return valueBy(epochs.get(epochs.size() - 1), x, y);
    }

    public long field(int x, int y, int day) {
        if (!in(x, 0, 35) || !in(y, 0, 17) || !in(day, 0, 800000)) {
            throw new IllegalArgumentException();
        }
        return fieldOf(all.epochs, x, y, day);
    }

    private int ironOf(int source, int heading) {
        return all.iron.getOrDefault(100 * source + heading, 0);
    }

    private long misfit(R r) {
        return r.value - (r.kind == 1 ? ironOf(r.source, r.heading) : 0) - fieldOf(all.epochs, r.x, r.y, r.day);
    }

    public long misfit(int reading) {
        return misfit(some(at(reading)));
    }

    public long cost(int e) {
        return in(e, 0, all.edition) ? costWith(weights(e)) : -1;
    }

    private int[] weights(int e) {
        int[] w = new int[all.readings.size()];
        for (int i = 0; i < w.length; i++) {
            R r = all.readings.get(i);
            w[i] = r.edition <= e ? weight(r, e) : 0;
        }
        return w;
    }

    private long costWith(int[] weights) {
        long cost = 0;
        for (int i = 0; i < weights.length; i++) {
            long m = misfit(all.readings.get(i));
            cost += weights[i] * m * m;
        }
        for (int i = 0; i + 1 < all.epochs.size(); i++) {
            for (int k = 0; k < 4; k++) {
                long far = all.epochs.get(i).c[k] - all.epochs.get(i + 1).c[k];
                cost += all.settings[2] * far * far;
            }
        }
        return cost;
    }

    public int solve(int rounds) {
        if (!in(rounds, 1, 60)) {
            return -1;
        }
        if (all.epochs.isEmpty()) {
            return -3;
        }
        int[] w = weights(all.edition);
        for (int round = 1; round <= rounds; round++) {
            boolean changed = false;
            for (Epoch e : all.epochs) {
                for (int k = 0; k < 4; k++) {
                    changed |= solveNumber(e, k, w);
                }
            }
            if (!changed) {
                return 100 + round;
            }
        }
        return rounds;
    }

    private boolean solveNumber(Epoch e, int k, int[] w) {
        int was = e.c[k];
        int best = was;
        long cost = costWith(w);
        for (int v = was + 1; v >= was - 1; v -= 2) {
            e.c[k] = v;
            if (in(v, -9999, 9999) && costWith(w) < cost) {
                cost = costWith(w);
                best = v;
            }
        }
        e.c[k] = best;
        return best != was;
    }

    public int iron(int source, int heading, int v) {
        if (!in(source, 0, 9) || !in(heading, 0, 7) || !in(v, -1800, 1800)) {
            return -1;
        }
        int was = ironOf(source, heading);
        all.iron.put(100 * source + heading, v);
        return was == v ? 0 : 1;
    }

    public long adjust(int source, int heading) {
        if (!in(source, 0, 9) || !in(heading, 0, 7)) {
            throw new IllegalArgumentException();
        }
        long sum = 0;
        long n = 0;
        for (R r : all.readings) {
            if (r.kind == 1 && r.source == source && r.heading == heading && weight(r, all.edition) > 0) {
                sum += r.value - fieldOf(all.epochs, r.x, r.y, r.day);
                n++;
            }
        }
        int v = (int) Math.max(-1800, Math.min(1800, n == 0 ? 0 : sum / n));
        all.iron.put(100 * source + heading, v);
        return v;
    }

    // ---- rivals

    private boolean rivals(R a, R b) {
        int e = all.edition;
        return a != b && weight(a, e) > 0 && weight(b, e) > 0 && Math.abs(a.day - b.day) <= 365
            && Math.abs(a.x - b.x) <= 1 && Math.abs(a.y - b.y) <= 1
            && Math.abs(a.value - b.value) > span(a, e) + span(b, e);
    }

    public int rival(int a, int b) {
        if (at(a) == null || at(b) == null || a == b) {
            return -1;
        }
        return rivals(at(a), at(b)) ? 1 : 0;
    }

    public int peace(int i) {
        if (i < -1) {
            return -1;
        }
        List<Integer> some = new ArrayList<>();
        for (int k = 0; k < all.readings.size() && some.size() < 12; k++) {
            for (R o : all.readings) {
                if (rivals(at(k), o)) {
                    some.add(k);
                    break;
                }
            }
        }
        List<int[]> pairs = new ArrayList<>();
        for (int a = 0; a < some.size(); a++) {
            for (int b = 0; b < a; b++) {
                if (rivals(at(some.get(a)), at(some.get(b)))) {
                    pairs.add(new int[] {a, b});
                }
            }
        }
        for (int many = 0;; many++) {
            for (int set = 0; set < 1 << some.size(); set++) {
                boolean fits = Integer.bitCount(set) == many;
                for (int[] p : pairs) {
                    fits &= (set >> p[0] & 1) + (set >> p[1] & 1) > 0;
                }
                if (fits) {
                    List<Integer> leave = new ArrayList<>();
                    for (int k = 0; k < some.size(); k++) {
                        if ((set >> k & 1) == 1) {
                            leave.add(some.get(k));
                        }
                    }
                    return i == -1 ? many : i < many ? leave.get(i) : -4;
                }
            }
        }
    }

    public int judge(int d) {
        int m = missing(d, byte[].class);
        if (m != 0) {
            return m;
        }
        Set<Integer> leave = new HashSet<>();
        for (byte b : (byte[]) shelves[d]) {
            leave.add((int) b);
        }
        for (int a = 0; a < all.readings.size(); a++) {
            for (int b = a + 1; b < all.readings.size(); b++) {
                if (!leave.contains(a) && !leave.contains(b) && rivals(at(a), at(b))) {
                    return 80 * a + b;
                }
            }
        }
        return -4;
    }

    private static int mod(long n) {
        return (int) ((n % 3600 + 3600) % 3600);
    }

    private long f(int place, int day) {
        return fieldOf(all.epochs, place / 18, place % 18, day);
    }

    public int turned(int angle, int place, int from, int to) {
        if (!in(angle, 0, 3599) || !in(place, 0, 647) || !in(from, 0, 800000) || !in(to, 0, 800000)) {
            return -1;
        }
        return mod(mod(angle + f(place, from)) - f(place, to));
    }

    public int left(int place, int a, int from, int b, int to) {
        if (!in(place, 0, 647) || !in(a, 0, 3599) || !in(from, 0, 800000) || !in(b, 0, 3599) || !in(to, 0, 800000)) {
            return -1;
        }
        int one = mod(a + f(place, from));
        int other = mod(b + f(place, to));
        return Math.min(mod(one - other), mod(other - one));
    }

    public int chart(int day) {
        if (!in(day, 0, 800000)) {
            return -1;
        }
        if (all.charts.size() == 6) {
            return -2;
        }
        if (all.epochs.isEmpty()) {
            return -3;
        }
        Map0 c = new Map0();
        c.day = day;
        c.epochs = copyOf(all.epochs);
        all.charts.add(c);
        return all.charts.size() - 1;
    }

    public long off(int chart, int place, int day, boolean now) {
        if (!in(chart, 0, all.charts.size() - 1) || !in(place, 0, 647) || !in(day, 0, 800000)) {
            throw new IllegalArgumentException();
        }
        return offAt(all.charts.get(chart), place, day, now);
    }

    private long offAt(Map0 c, int place, int day, boolean now) {
        return fieldOf(now ? all.epochs : c.epochs, place / 18, place % 18, day)
            - fieldOf(c.epochs, place / 18, place % 18, c.day);
    }

    public int late(int chart, int d, int much) {
        if (!in(chart, 0, all.charts.size() - 1) || !in(d, 0, 7) || !in(much, 0, 9999)) {
            return -1;
        }
        int m = missing(d, short[].class);
        if (m != 0) {
            return m;
        }
        short[] places = (short[]) shelves[d];
        for (short p : places) {
            if (!in(p, 0, 647)) {
                return -13;
            }
        }
        Map0 c = all.charts.get(chart);
        for (int k = 1; k <= 100; k++) {
            for (short p : places) {
                if (Math.abs(offAt(c, p, c.day + 365 * k, true)) > much) {
                    return c.day + 365 * k;
                }
            }
        }
        return -4;
    }

    public int offer(int x, int y, int cost) {
        if (!in(x, 0, 35) || !in(y, 0, 17) || !in(cost, 1, 999)) {
            return -1;
        }
        if (all.offers.size() == 8) {
            return -2;
        }
        all.offers.add(new int[] {x, y, cost});
        return all.offers.size();
    }

    public int next(int coin, int what) {
        if (!in(coin, 0, 9999) || !in(what, 0, 2)) {
            return -1;
        }
        int[] best = null;
        for (int set = 0; set < 1 << all.offers.size(); set++) {
            Set<Integer> seen = new HashSet<>();
            int cost = 0;
            for (int i = 0; i < all.offers.size(); i++) {
                if ((set >> i & 1) == 1) {
                    int[] o = all.offers.get(i);
                    cost += o[2];
                    look(o[0], o[1], seen);
                }
            }
            int[] got = {seen.size(), set, cost};
            if (cost <= coin && (best == null || got[0] > best[0] || got[0] == best[0] && got[2] < best[2])) {
                best = got;
            }
        }
        return best[what];
    }

    private static void look(int x, int y, Set<Integer> seen) {
        for (int a = 0; a < 36; a++) {
            for (int b = 0; b < 18; b++) {
                if (Math.abs(a - x) <= 4 && Math.abs(b - y) <= 4) {
                    seen.add(18 * a + b);
                }
            }
        }
    }

    // ---- the image

    public int image() {
        image = all.again();
        return all.edition;
    }

    public int restore() {
        if (image == null) {
            return -3;
        }
        all = image.again();
        return all.edition;
    }

    public int count(int what) {
        int weightless = 0;
        for (R r : all.readings) {
            weightless += weight(r, all.edition) == 0 ? 1 : 0;
        }
        int[] counts = {
            all.readings.size(), all.rules.size(), all.trips.size(), all.epochs.size(), all.charts.size(),
            all.offers.size(), all.edition, all.land.size(), weightless,
        };
        return in(what, 0, 8) ? counts[what] : -1;
    }

    // ---- shelves

    public int keep(int d, int what, int k) {
        if (!in(d, 0, 7) || !in(what, 0, 1) || what == 1 && at(k) == null) {
            return -1;
        }
        shelves[d] = what == 0 ? null : at(k);
        return 0;
    }

    public int row(int d, int sort, int n) {
        if (!in(d, 0, 7) || !in(sort, 0, 2) || n > 80) {
            return -1;
        }
        if (n < 0) {
            return -14;
        }
        shelves[d] = sort == 0 ? new byte[n] : sort == 1 ? (Object) new short[n] : new int[n];
        return 0;
    }

    private static int size(Object row) {
        return row == null || row instanceof R ? 0 : java.lang.reflect.Array.getLength(row);
    }

    public int put(int d, int i, int v) {
        if (!in(d, 0, 7)) {
            return -1;
        }
        Object row = shelves[d];
        if (row == null || row instanceof R) {
            return row == null ? -11 : -12;
        }
        if (!in(i, 0, size(row) - 1)) {
            return -13;
        }
        if (row instanceof byte[]) {
            ((byte[]) row)[i] = (byte) v;
        } else if (row instanceof short[]) {
            ((short[]) row)[i] = (short) v;
        } else {
            ((int[]) row)[i] = v;
        }
        return 0;
    }

    public long element(int d, int i) {
        if (!in(d, 0, 7)) {
            throw new IllegalArgumentException();
        }
        if (!in(i, 0, size(shelves[d]) - 1)) {
            throw new IllegalStateException();
        }
        return java.lang.reflect.Array.getLong(shelves[d], i);
    }

    public int copy(int d, int i, int e, int j, int n) {
        if (!in(d, 0, 7) || !in(e, 0, 7)) {
            return -1;
        }
        Object a = shelves[d];
        Object b = shelves[e];
        if (a == null || b == null) {
            return -11;
        }
        if (a instanceof R || b instanceof R || a.getClass() != b.getClass()) {
            return -12;
        }
        if (i < 0 || j < 0 || n < 0 || (long) i + n > size(a) || (long) j + n > size(b)) {
            return -13;
        }
        System.arraycopy(a, i, b, j, n);
        return n;
    }

    public int heft(int d) {
        int m = missing(d, R.class);
        if (m != 0) {
            return m;
        }
        R r = (R) shelves[d];
        int heft = 100 + WEIGHT[r.kind] + SPAN[r.kind];
        switch (r.kind) {
            case 1: return heft + 10 * r.heading;
            case 2: return heft + r.x;
            case 3: return heft + 200;
            case 4: return 2 * (heft + 200);
            default: return heft;
        }
    }

    public int toss(int d) {
        int m = missing(d, R.class);
        if (m != 0) {
            return m;
        }
        R r = (R) shelves[d];
        if (r.kind == 5 || r.kind == 2 && all.land.contains(18 * r.x + r.y)) {
            return -15;
        }
        return r.source + (r.kind == 4 ? 100 : 0);
    }

}

/** Magnetic charts: see ../shared/DOC.md, whose words in capitals the names and comments here take up. */
public final class NeedleCharts {
    private static final int NOT_SO = -1;
    private static final int NO_ROOM = -2;
    private static final int CANNOT = -3;
    private static final int NONE = -4;
    private static final int NO_DATE = -5;
    private static final int NOTHING_HELD = -11;
    private static final int OTHER_KIND = -12;
    private static final int NOT_THERE = -13;
    private static final int BELOW_0 = -14;
    private static final int NO_FAILURE = -15;
    private static final int FAULTY = -100;

    private static final int WIDE = 36;
    private static final int HIGH = 18;
    private static final int PLACES = 648;
    private static final int LAST_YEAR = 2400;
    private static final int LAST_DAY = 800000;
    private static final int LAST_EDITION = 60;
    private static final int STRANGE_STYLE = 3;
    /** Days of a short year that are ahead of each month; the 13th row is the year's own length. */
    private static final int[] AHEAD_OF_MONTH = {0, 31, 59, 90, 120, 151, 181, 212, 243, 273, 304, 334, 365};

    private static final int MOST_READINGS = 80;
    private static final int MOST_RULES = 20;
    private static final int MOST_VOYAGES = 6;
    private static final int MOST_LEGS = 30;
    private static final int MOST_EPOCHS = 4;
    private static final int MOST_CHARTS = 6;
    private static final int MOST_OFFERS = 8;
    private static final int MOST_ELEMENTS = 80;
    private static final int SHELVES = 8;
    private static final int SOURCES = 10;
    private static final int HEADINGS = 8;
    private static final int NUMBERS = 4;
    private static final int MOST_OF_A_NUMBER = 9999;
    private static final int MOST_IRON = 1800;
    private static final int CIRCLE = 3600;
    private static final int YEAR = 365;
    private static final int REACH = 9;
    private static final int SIGHT_REACH = 4;
    private static final int MOST_PARTIES = 12;
    private static final int CHART_STEPS = 100;

    private static final int SHIP = 1;
    private static final int PLAN = 2;
    private static final int STATION = 3;
    private static final int SHAKEN = 4;
    private static final int COPIED = 5;

    private static final int MANY = 0;
    private static final int BOUND = 1;
    private static final int SMOOTH = 2;
    private static final int[] LEAST_SETTING = {1, 0, 0};
    private static final int[] MOST_SETTING = {9, 999, 1000};

    private static final int STRIKES = 0;
    private static final int WEIGHS = 1;
    private static final int SPANS = 2;
    private static final String PURPOSES = "kgp";
    private static final String FIELDS = "ksdxyvhwqn";
    private static final int FIELDS_IN_ALL = 10;
    private static final int FIELD_WEIGHT = 7;
    private static final int FIELD_SPAN = 8;

    private static final int BYTES = 0;
    private static final int SHORTS = 1;
    private static final int INTS = 2;
    private static final int NO_ROW = -1;
    private static final int ANY_ROW = -2;

    /** The columns of what SOLVING works on; each is a row over the READINGS that weigh. */
    private static final int FIT_X = 0;
    private static final int FIT_Y = 1;
    private static final int FIT_DAY = 2;
    private static final int FIT_EPOCHS = 3;
    private static final int FIT_WANTED = 4;
    private static final int FIT_WEIGHT = 5;
    private static final int FIT_COLUMNS = 6;

    private final State now;
    private final State kept;
    private boolean imageTaken;
    private final Shelf[] shelves;
    private final Rule draft;

    /** Rows that calls fill and read for themselves, made once so that no call needs room of its own. */
    private final int[] fields;
    private final int[] weights;
    private final int[] spans;
    private final int[][] fit;
    private int fitCount;
    private final int[] parties;
    private final int[] rivalsOf;
    private final int[] ownValues;

    /** NIGHTS are found anew only when a READING, MANY or BOUND has changed since. */
    private final boolean[] nights;
    private final boolean[] strays;
    private final int[] placeSums;
    private final int[] placeCounts;
    private final int[] placeStamps;
    private boolean nightsKnown;

    public NeedleCharts() {
        now = new State();
        kept = new State();
        imageTaken = false;
        shelves = new Shelf[SHELVES];
        for (int d = 0; d < SHELVES; d++) {
            shelves[d] = new Shelf();
        }
        draft = new Rule();
        fields = new int[FIELDS_IN_ALL];
        weights = new int[MOST_READINGS];
        spans = new int[MOST_READINGS];
        fit = new int[FIT_COLUMNS][MOST_READINGS];
        fitCount = 0;
        parties = new int[MOST_PARTIES];
        rivalsOf = new int[MOST_PARTIES];
        ownValues = new int[MOST_ELEMENTS];
        nights = new boolean[MOST_READINGS];
        strays = new boolean[MOST_READINGS];
        placeSums = new int[PLACES];
        placeCounts = new int[PLACES];
        placeStamps = new int[PLACES];
        nightsKnown = false;
    }

    // ---- days, places

    public int day(int year, int month, int day, boolean old) {
        return dayOf(year, month, day, old);
    }

    public int date(int day, boolean old, int what) {
        if (!isDay(day) || !within(what, 0, 2)) {
            return NOT_SO;
        }
        int year = yearOf(day, old);
        int ofYear = day - newYearsDay(year, old);
        int month = 12;
        while (month > 1 && daysAhead(year, month, old) > ofYear) {
            month--;
        }
        switch (what) {
            case 0: return year;
            case 1: return month;
            default: return ofYear - daysAhead(year, month, old) + 1;
        }
    }

    public int mayBe(int style, int year, int month, int day, int i) {
        if (!within(style, 0, STRANGE_STYLE) || i < -1) {
            return NOT_SO;
        }
        boolean all = style == STRANGE_STYLE;
        int byOld = all || style == 0 ? dayOf(year, month, day, true) : NO_DATE;
        int byNew = all || style == 1 ? dayOf(year, month, day, false) : NO_DATE;
        int byMarch = all || style == 2 ? dayByMarch(year, month, day) : NO_DATE;
        // NO_DATE is below every DAY (-2 at least), so that beginning with it leaves it out
        int last = NO_DATE;
        for (int k = 0; k < 3; k++) {
            int later = leastAbove(last, byOld, byNew, byMarch);
            if (later == NO_DATE) {
                return i == -1 ? k : NO_DATE;
            }
            if (k == i) {
                return later;
            }
            last = later;
        }
        return i == -1 ? 3 : NO_DATE;
    }

    public int land(int x0, int x1, int y, boolean is) {
        if (!isPlace(x0, y) || !isPlace(x1, y) || x0 > x1) {
            return NOT_SO;
        }
        return now.lay(x0, x1, y, is);
    }

    private static boolean within(int n, int least, int most) {
        return n >= least && n <= most;
    }

    private static boolean isDay(int day) {
        return within(day, 0, LAST_DAY);
    }

    private static boolean isPlace(int place) {
        return within(place, 0, PLACES - 1);
    }

    private static boolean isPlace(int x, int y) {
        return within(x, 0, WIDE - 1) && within(y, 0, HIGH - 1);
    }

    private static boolean isYear(int year) {
        return within(year, 1, LAST_YEAR);
    }

    private static boolean isLong(int year, boolean old) {
        return year % 4 == 0 && (old || year % 100 != 0 || year % 400 == 0);
    }

    private static int newYearsDay(int year, boolean old) {
        int gone = year - 1;
        int days = YEAR * gone + gone / 4;
        return old ? days - 2 : days - gone / 100 + gone / 400;
    }

    /** The days of the year ahead of a month 1 .. 12; with 13 all of them. */
    private static int daysAhead(int year, int month, boolean old) {
        if (!within(month, 1, 13)) {
            return 0;
        }
        return AHEAD_OF_MONTH[month - 1] + (month > 2 && isLong(year, old) ? 1 : 0);
    }

    private static int dayOf(int year, int month, int day, boolean old) {
        if (!isYear(year) || !within(month, 1, 12)) {
            return NO_DATE;
        }
        int ahead = daysAhead(year, month, old);
        if (!within(day, 1, daysAhead(year, month + 1, old) - ahead)) {
            return NO_DATE;
        }
        return newYearsDay(year, old) + ahead + day - 1;
    }

    /** The told year must have DATES itself: a year 0 has none, though its January is that of an OLD year 1. */
    private static int dayByMarch(int year, int month, int day) {
        if (!isYear(year)) {
            return NO_DATE;
        }
        boolean early = month < 3 || month == 3 && day < 25;
        return dayOf(early ? year + 1 : year, month, day, true);
    }

    private static int yearOf(int day, boolean old) {
        int year = day / (YEAR + 1) + 1;
        while (year < LAST_YEAR && newYearsDay(year + 1, old) <= day) {
            year++;
        }
        return year;
    }

    private static int leastAbove(int last, int a, int b, int c) {
        int least = lesserAbove(last, NO_DATE, a);
        least = lesserAbove(last, least, b);
        return lesserAbove(last, least, c);
    }

    private static int lesserAbove(int last, int least, int next) {
        boolean lesser = least == NO_DATE || next < least;
        return next > last && lesser ? next : least;
    }

    // ---- readings

    public int reading(int kind, int source, int place, int day, int value, int told) {
        boolean from = within(kind, 0, COPIED) && within(source, 0, SOURCES - 1);
        boolean at = isPlace(place) && isDay(day);
        boolean heads = within(told, 0, kind == SHIP ? HEADINGS - 1 : 0);
        if (!from || !at || !heads || !within(value, -1800, 1799)) {
            return NOT_SO;
        }
        int n = now.readingCount;
        if (n >= MOST_READINGS) {
            return NO_ROOM;
        }
        now.readings[n] = newReading(kind, source, place, day, value, told);
        now.readingCount = n + 1;
        nightsKnown = false;
        return n;
    }

    public int about(int reading, int what) {
        Reading r = readingAt(reading);
        if (r == null) {
            return NOT_SO;
        }
        switch (what) {
            case 0: return r.kind();
            case 1: return r.source;
            case 2: return r.place;
            case 3: return r.day;
            case 4: return r.heading();
            case 5: return r.edition;
            default: return NOT_SO;
        }
    }

    public long value(int reading) throws IllegalArgumentException {
        Reading r = readingAt(reading);
        if (r == null) {
            throw new IllegalArgumentException("no such reading");
        }
        return r.value;
    }

    private Reading newReading(int kind, int source, int place, int day, int value, int told) {
        int e = now.edition;
        switch (kind) {
            case SHIP: return new Ship(source, place, day, value, e, told);
            case PLAN: return new Plan(source, place, day, value, e);
            case STATION: return new Station(source, place, day, value, e);
            case SHAKEN: return new Shaken(source, place, day, value, e);
            case COPIED: return new Copied(source, place, day, value, e);
            default: return new Reading(source, place, day, value, e);
        }
    }

    private Reading readingAt(int i) {
        return i >= 0 && i < now.readingCount && i < MOST_READINGS ? now.readings[i] : null;
    }

    // ---- rules, editions

    public int edition(int e) {
        int was = now.edition;
        if (!within(e, was, LAST_EDITION)) {
            return NOT_SO;
        }
        now.edition = e;
        return was;
    }

    public int fault(int d) {
        int wrong = wrongRow(d, BYTES);
        if (wrong != 0) {
            return wrong;
        }
        return draft.read(shelves[d].cells, shelves[d].size);
    }

    public int rule(int d) {
        if (!isShelf(d)) {
            return NOT_SO;
        }
        int n = now.ruleCount;
        if (n >= MOST_RULES) {
            return NO_ROOM;
        }
        int wrong = wrongRow(d, BYTES);
        if (wrong != 0) {
            return wrong;
        }
        int fault = draft.read(shelves[d].cells, shelves[d].size);
        if (fault != NONE) {
            return FAULTY - fault;
        }
        draft.begin(now.edition);
        now.rules[n].take(draft);
        now.ruleCount = n + 1;
        return n;
    }

    public int strike(int rule) {
        if (rule < 0 || rule >= now.ruleCount || rule >= MOST_RULES) {
            return NOT_SO;
        }
        return now.rules[rule].strikeOut(now.edition) ? 1 : CANNOT;
    }

    public int force(int purpose, int e) {
        if (!within(purpose, STRIKES, SPANS) || !within(e, 0, now.edition)) {
            return NOT_SO;
        }
        int n = now.ruleNumber(purpose, e);
        return n < 0 ? NONE : n;
    }

    public int counts(int reading, int what, int e) {
        Reading r = readingAt(reading);
        if (r == null || !within(what, 0, 1) || !within(e, 0, now.edition)) {
            return NOT_SO;
        }
        if (r.edition > e) {
            return CANNOT;
        }
        learnNights();
        weighOne(reading, now.ruleFor(STRIKES, e), now.ruleFor(WEIGHS, e), now.ruleFor(SPANS, e));
        return what == 0 ? weights[reading] : spans[reading];
    }

    public int night(int reading) {
        if (readingAt(reading) == null) {
            return NOT_SO;
        }
        learnNights();
        return nights[reading] ? 1 : 0;
    }

    public int set(int what, int n) {
        if (!within(what, MANY, SMOOTH) || !within(n, LEAST_SETTING[what], MOST_SETTING[what])) {
            return NOT_SO;
        }
        int was = now.settings[what];
        now.settings[what] = n;
        nightsKnown = false;
        return was;
    }

    /** WEIGHTS and SPANS by an EDITION into their rows; a READING not known by then weighs nothing. */
    private void weighAll(int e) {
        learnNights();
        Rule strikes = now.ruleFor(STRIKES, e);
        Rule weighs = now.ruleFor(WEIGHS, e);
        Rule spanning = now.ruleFor(SPANS, e);
        for (int i = 0; i < now.readingCount; i++) {
            weighOne(i, strikes, weighs, spanning);
            Reading r = readingAt(i);
            if (r != null && r.edition > e) {
                weights[i] = 0;
            }
        }
    }

    /** Any of the RULES may be null: then it goes by kind. */
    private void weighOne(int i, Rule strikes, Rule weighs, Rule spanning) {
        Reading r = readingAt(i);
        if (r == null) {
            return;
        }
        tellFields(r, nights[i]);
        boolean struck = strikes != null && strikes.answer(fields) != 0;
        int weight = weighs == null ? fields[FIELD_WEIGHT] : weighs.answer(fields);
        int span = spanning == null ? fields[FIELD_SPAN] : spanning.answer(fields);
        weights[i] = struck ? 0 : Math.max(0, Math.min(100, weight));
        spans[i] = Math.max(1, Math.min(1800, span));
    }

    /** In the order of their letters. */
    private void tellFields(Reading r, boolean night) {
        fields[0] = r.kind();
        fields[1] = r.source;
        fields[2] = r.day / YEAR;
        fields[3] = r.x();
        fields[4] = r.y();
        fields[5] = r.value;
        fields[6] = r.heading();
        fields[FIELD_WEIGHT] = r.weight();
        fields[FIELD_SPAN] = r.span();
        fields[9] = night ? 1 : 0;
    }

    private void learnNights() {
        if (nightsKnown) {
            return;
        }
        nightsKnown = true;
        findStrays();
        for (int i = 0; i < MOST_READINGS; i++) {
            nights[i] = false;
        }
        for (int i = 0; i < now.readingCount; i++) {
            Reading r = readingAt(i);
            if (r != null && strays[i] && !nights[i] && strayPlaces(r.day, i + 1) >= now.settings[MANY]) {
                markNight(r.day);
            }
        }
    }

    /** STRAYS: STATIONS' READINGS that differ by more than BOUND from the mean of their PLACE. */
    private void findStrays() {
        for (int i = 0; i < now.readingCount; i++) {
            Reading r = readingAt(i);
            if (r != null) {
                placeSums[r.place] = 0;
                placeCounts[r.place] = 0;
                placeStamps[r.place] = 0;
            }
        }
        for (int i = 0; i < now.readingCount; i++) {
            Reading r = readingAt(i);
            if (r instanceof Station) {
                placeSums[r.place] += r.value;
                placeCounts[r.place]++;
            }
        }
        for (int i = 0; i < MOST_READINGS; i++) {
            Reading r = readingAt(i);
            strays[i] = r instanceof Station && placeCounts[r.place] > 0
                && Math.abs(r.value - placeSums[r.place] / placeCounts[r.place]) > now.settings[BOUND];
        }
    }

    /** How many unlike PLACES have a STRAY on a DAY; the stamp tells this count's PLACES from those of others. */
    private int strayPlaces(int day, int stamp) {
        int places = 0;
        for (int i = 0; i < now.readingCount; i++) {
            Reading r = readingAt(i);
            if (r != null && strays[i] && r.day == day && placeStamps[r.place] != stamp) {
                placeStamps[r.place] = stamp;
                places++;
            }
        }
        return places;
    }

    private void markNight(int day) {
        for (int i = 0; i < now.readingCount; i++) {
            Reading r = readingAt(i);
            if (r != null && r.day == day) {
                nights[i] = true;
            }
        }
    }

    // ---- voyages

    public int voyage(int x, int y) {
        if (!isPlace(x, y)) {
            return NOT_SO;
        }
        int n = now.voyageCount;
        if (n >= MOST_VOYAGES) {
            return NO_ROOM;
        }
        now.voyages[n].begin(x, y);
        now.voyageCount = n + 1;
        return n;
    }

    public int leg(int voyage, int east, int north) {
        Voyage v = voyageAt(voyage);
        if (v == null || !within(east, -REACH, REACH) || !within(north, -REACH, REACH)) {
            return NOT_SO;
        }
        return v.goOn(east, north) ? v.legs : NO_ROOM;
    }

    public int sight(int voyage, int x, int y) {
        Voyage v = voyageAt(voyage);
        if (v == null || !isPlace(x, y)) {
            return NOT_SO;
        }
        return v.closeAt(x, y) ? v.legs : NO_ROOM;
    }

    public int closed(int voyage, int i, int what) {
        Voyage v = voyageAt(voyage);
        if (v == null || !within(what, 0, 1) || i < -1 || i >= v.legs || i >= MOST_LEGS) {
            return NOT_SO;
        }
        return what == 0 ? 1000 * (v.xs[i + 1] + 500) + v.ys[i + 1] + 500 : v.spans[i + 1];
    }

    public int shift(int voyage) {
        Voyage v = voyageAt(voyage);
        if (v == null) {
            return NOT_SO;
        }
        int best = NONE;
        int least = 2 * REACH + 1;
        // east, then north rise, so that of several the first one found is the one that is meant
        for (int east = -REACH; east <= REACH; east++) {
            for (int north = -REACH; north <= REACH; north++) {
                int far = Math.abs(east) + Math.abs(north);
                if (far < least && atSea(v, east, north)) {
                    least = far;
                    best = 100 * (east + 10) + north + 10;
                }
            }
        }
        return best;
    }

    private Voyage voyageAt(int i) {
        return i >= 0 && i < now.voyageCount && i < MOST_VOYAGES ? now.voyages[i] : null;
    }

    private boolean atSea(Voyage v, int east, int north) {
        for (int i = 0; i <= v.legs && i <= MOST_LEGS; i++) {
            int x = v.xs[i] + east;
            int y = v.ys[i] + north;
            if (!isPlace(x, y) || now.isLand(x, y)) {
                return false;
            }
        }
        return true;
    }

    // ---- the field

    public int epoch(int day) {
        Field f = now.field;
        boolean rises = f.epochs == 0 || day > f.lastDay();
        if (!isDay(day) || !rises) {
            return NOT_SO;
        }
        return f.addEpoch(day) ? f.epochs - 1 : NO_ROOM;
    }

    public int number(int epoch, int which, int v) {
        if (!isNumber(epoch, which) || !within(v, -MOST_OF_A_NUMBER, MOST_OF_A_NUMBER)) {
            return NOT_SO;
        }
        int at = NUMBERS * epoch + which;
        boolean another = now.field.numbers[at] != v;
        now.field.numbers[at] = v;
        return another ? 1 : 0;
    }

    public long told(int epoch, int which) throws IllegalArgumentException {
        if (!isNumber(epoch, which)) {
            throw new IllegalArgumentException("no such number of an epoch");
        }
        return now.field.numbers[NUMBERS * epoch + which];
    }

    public long field(int x, int y, int day) throws IllegalArgumentException {
        if (!isPlace(x, y) || !isDay(day)) {
            throw new IllegalArgumentException("no such place or day");
        }
        return now.field.at(x, y, day);
    }

    public long misfit(int reading) throws IllegalArgumentException {
        Reading r = readingAt(reading);
        if (r == null) {
            throw new IllegalArgumentException("no such reading");
        }
        return misfitOf(r);
    }

    public long cost(int e) {
        if (!within(e, 0, now.edition)) {
            return NOT_SO;
        }
        weighAll(e);
        long cost = now.smoothCost();
        for (int i = 0; i < now.readingCount; i++) {
            Reading r = readingAt(i);
            if (r != null && weights[i] > 0) {
                long misfit = misfitOf(r);
                cost += weights[i] * misfit * misfit;
            }
        }
        return cost;
    }

    public int solve(int rounds) {
        if (!within(rounds, 1, 60)) {
            return NOT_SO;
        }
        if (now.field.epochs == 0) {
            return CANNOT;
        }
        weighAll(now.edition);
        gatherFit();
        for (int round = 1; round <= rounds; round++) {
            if (!roundChanges()) {
                return 100 + round;
            }
        }
        return rounds;
    }

    public int iron(int source, int heading, int v) {
        if (!isIron(source, heading) || !within(v, -MOST_IRON, MOST_IRON)) {
            return NOT_SO;
        }
        int at = HEADINGS * source + heading;
        boolean another = now.iron[at] != v;
        now.iron[at] = v;
        return another ? 1 : 0;
    }

    public long adjust(int source, int heading) throws IllegalArgumentException {
        if (!isIron(source, heading)) {
            throw new IllegalArgumentException("no such source or heading");
        }
        weighAll(now.edition);
        long sum = 0;
        int ships = 0;
        for (int i = 0; i < now.readingCount; i++) {
            Reading r = readingAt(i);
            if (r instanceof Ship && r.source == source && r.heading() == heading && weights[i] > 0) {
                sum += r.value - now.field.at(r.x(), r.y(), r.day);
                ships++;
            }
        }
        long mean = ships > 0 ? sum / ships : 0;
        int adjusted = (int) Math.max(-MOST_IRON, Math.min(MOST_IRON, mean));
        now.iron[HEADINGS * source + heading] = adjusted;
        return adjusted;
    }

    private boolean isNumber(int epoch, int which) {
        return epoch >= 0 && epoch < now.field.epochs && epoch < MOST_EPOCHS && within(which, 0, NUMBERS - 1);
    }

    private static boolean isIron(int source, int heading) {
        return within(source, 0, SOURCES - 1) && within(heading, 0, HEADINGS - 1);
    }

    private int misfitOf(Reading r) {
        return wanted(r) - now.field.at(r.x(), r.y(), r.day);
    }

    /** What the FIELD would have to be for the READING to fit. */
    private int wanted(Reading r) {
        int at = HEADINGS * r.source + r.heading();
        boolean hasIron = r instanceof Ship && at >= 0 && at < now.iron.length;
        return hasIron ? r.value - now.iron[at] : r.value;
    }

    /** SOLVING asks for COST many hundred times: what does not change meanwhile is worked out once. */
    private void gatherFit() {
        int n = 0;
        for (int i = 0; i < now.readingCount; i++) {
            Reading r = readingAt(i);
            if (r != null && weights[i] > 0 && n < MOST_READINGS) {
                fit[FIT_X][n] = r.x();
                fit[FIT_Y][n] = r.y();
                fit[FIT_DAY][n] = r.day;
                fit[FIT_EPOCHS][n] = now.field.epochsBy(r.day);
                fit[FIT_WANTED][n] = wanted(r);
                fit[FIT_WEIGHT][n] = weights[i];
                n++;
            }
        }
        fitCount = n;
    }

    private boolean roundChanges() {
        boolean changed = false;
        for (int epoch = 0; epoch < now.field.epochs; epoch++) {
            long stands = fitCost(epoch);
            for (int which = 0; which < NUMBERS; which++) {
                int at = NUMBERS * epoch + which;
                int before = now.field.numbers[at];
                stands = tryNumber(epoch, at, stands);
                changed |= now.field.numbers[at] != before;
            }
        }
        return changed;
    }

    /** What the READINGS cost that an EPOCH has a part in; the others cost the same whatever becomes of it. */
    private long fitCost(int epoch) {
        long cost = 0;
        for (int i = 0; i < fitCount && i < MOST_READINGS; i++) {
            int epochs = fit[FIT_EPOCHS][i];
            if (epochs == epoch || epochs == epoch + 1) {
                int field = now.field.after(epochs, fit[FIT_X][i], fit[FIT_Y][i], fit[FIT_DAY][i]);
                long misfit = fit[FIT_WANTED][i] - field;
                cost += fit[FIT_WEIGHT][i] * misfit * misfit;
            }
        }
        return cost;
    }

    /** A NUMBER goes 1 more, 1 less or stays; stands: what its EPOCH's READINGS cost; answers what they cost then. */
    private long tryNumber(int epoch, int at, long stands) {
        int[] numbers = now.field.numbers;
        int was = numbers[at];
        long asItIs = stands + now.smoothAround(at);
        long readingsMore = stands;
        long readingsLess = stands;
        // beyond its ends a NUMBER cannot go: there it costs what it costs now, and so stays
        long more = asItIs;
        long less = asItIs;
        if (was < MOST_OF_A_NUMBER) {
            numbers[at] = was + 1;
            readingsMore = fitCost(epoch);
            more = readingsMore + now.smoothAround(at);
        }
        if (was > -MOST_OF_A_NUMBER) {
            numbers[at] = was - 1;
            readingsLess = fitCost(epoch);
            less = readingsLess + now.smoothAround(at);
        }
        if (more < asItIs && more <= less) {
            numbers[at] = was + 1;
            return readingsMore;
        }
        if (less < asItIs) {
            numbers[at] = was - 1;
            return readingsLess;
        }
        numbers[at] = was;
        return stands;
    }

    // ---- rivals, plans, charts, stations

    public int rival(int a, int b) {
        if (readingAt(a) == null || readingAt(b) == null || a == b) {
            return NOT_SO;
        }
        learnNights();
        Rule strikes = now.ruleFor(STRIKES, now.edition);
        Rule weighs = now.ruleFor(WEIGHS, now.edition);
        Rule spanning = now.ruleFor(SPANS, now.edition);
        weighOne(a, strikes, weighs, spanning);
        weighOne(b, strikes, weighs, spanning);
        return areRivals(a, b) ? 1 : 0;
    }

    public int peace(int i) {
        if (i < -1) {
            return NOT_SO;
        }
        weighAll(now.edition);
        int n = gatherParties();
        int leaving = fewestLeaving(n);
        if (i == -1) {
            return Integer.bitCount(leaving);
        }
        int seen = 0;
        for (int k = 0; k < n && k < MOST_PARTIES; k++) {
            if ((leaving >> k & 1) != 0) {
                if (seen == i) {
                    return parties[k];
                }
                seen++;
            }
        }
        return NONE;
    }

    public int judge(int d) {
        int wrong = wrongRow(d, BYTES);
        if (wrong != 0) {
            return wrong;
        }
        weighAll(now.edition);
        dropLeaving(shelves[d]);
        for (int a = 0; a < now.readingCount; a++) {
            for (int b = a + 1; b < now.readingCount; b++) {
                if (areRivals(a, b)) {
                    return MOST_READINGS * a + b;
                }
            }
        }
        return NONE;
    }

    public int turned(int angle, int place, int from, int to) {
        if (!isAngle(angle) || !isPlace(place) || !isDay(from) || !isDay(to)) {
            return NOT_SO;
        }
        return Math.floorMod(trueAngle(angle, place, from) - fieldAt(now.field, place, to), CIRCLE);
    }

    public int left(int place, int a, int from, int b, int to) {
        if (!isPlace(place) || !isAngle(a) || !isDay(from) || !isAngle(b) || !isDay(to)) {
            return NOT_SO;
        }
        int way = Math.abs(trueAngle(a, place, from) - trueAngle(b, place, to));
        return Math.min(way, CIRCLE - way);
    }

    public int chart(int day) {
        if (!isDay(day)) {
            return NOT_SO;
        }
        int n = now.chartCount;
        if (n >= MOST_CHARTS) {
            return NO_ROOM;
        }
        if (now.field.epochs == 0) {
            return CANNOT;
        }
        now.charts[n].take(now.field);
        now.charts[n].chartDay = day;
        now.chartCount = n + 1;
        return n;
    }

    public long off(int chart, int place, int day, boolean now) throws IllegalArgumentException {
        Field own = chartAt(chart);
        if (own == null || !isPlace(place) || !isDay(day)) {
            throw new IllegalArgumentException("no such chart, place or day");
        }
        Field known = now ? this.now.field : own;
        return fieldAt(known, place, day) - fieldAt(own, place, own.chartDay);
    }

    public int late(int chart, int d, int much) {
        Field own = chartAt(chart);
        if (own == null || !within(much, 0, 9999)) {
            return NOT_SO;
        }
        int wrong = wrongRow(d, SHORTS);
        if (wrong != 0) {
            return wrong;
        }
        Shelf s = shelves[d];
        for (int i = 0; i < s.size && i < MOST_ELEMENTS; i++) {
            if (!isPlace(s.cells[i])) {
                return NOT_THERE;
            }
            ownValues[i] = fieldAt(own, s.cells[i], own.chartDay);
        }
        for (int step = 1; step <= CHART_STEPS; step++) {
            int day = own.chartDay + YEAR * step;
            if (anyOff(s, day, much)) {
                return day;
            }
        }
        return NONE;
    }

    public int offer(int x, int y, int cost) {
        if (!isPlace(x, y) || !within(cost, 1, 999)) {
            return NOT_SO;
        }
        int n = now.offerCount;
        if (n >= MOST_OFFERS) {
            return NO_ROOM;
        }
        now.offerPlaces[n] = HIGH * x + y;
        now.offerCosts[n] = cost;
        now.offerCount = n + 1;
        return n + 1;
    }

    public int next(int coin, int what) {
        if (!within(coin, 0, 9999) || !within(what, 0, 2)) {
            return NOT_SO;
        }
        int best = 0;
        int bestSeen = 0;
        int bestCost = 0;
        int sets = 1 << Math.min(now.offerCount, MOST_OFFERS);
        for (int set = 1; set < sets; set++) {
            int cost = now.costOfOffers(set);
            int seen = cost <= coin ? now.seenBy(set) : -1;
            if (seen > bestSeen || seen == bestSeen && cost < bestCost) {
                best = set;
                bestSeen = seen;
                bestCost = cost;
            }
        }
        switch (what) {
            case 0: return bestSeen;
            case 1: return best;
            default: return bestCost;
        }
    }

    /** Of two READINGS whose WEIGHTS and SPANS stand in their rows. */
    private boolean areRivals(int a, int b) {
        Reading p = readingAt(a);
        Reading q = readingAt(b);
        if (p == null || q == null || weights[a] <= 0 || weights[b] <= 0) {
            return false;
        }
        boolean near = Math.abs(p.day - q.day) <= YEAR && Math.abs(p.x() - q.x()) <= 1 && Math.abs(p.y() - q.y()) <= 1;
        return near && Math.abs(p.value - q.value) > spans[a] + spans[b];
    }

    /** The first READINGS that have a RIVAL, and for each of them which of the others are its RIVALS, as bits. */
    private int gatherParties() {
        int n = 0;
        for (int i = 0; i < now.readingCount && n < MOST_PARTIES; i++) {
            if (hasRival(i)) {
                parties[n] = i;
                n++;
            }
        }
        for (int i = 0; i < n && i < MOST_PARTIES; i++) {
            rivalsOf[i] = 0;
            for (int k = 0; k < n && k < MOST_PARTIES; k++) {
                if (k != i && areRivals(parties[i], parties[k])) {
                    rivalsOf[i] |= 1 << k;
                }
            }
        }
        return n;
    }

    private boolean hasRival(int i) {
        for (int k = 0; k < now.readingCount; k++) {
            if (k != i && areRivals(i, k)) {
                return true;
            }
        }
        return false;
    }

    private int fewestLeaving(int n) {
        int sets = 1 << Math.max(0, Math.min(n, MOST_PARTIES));
        int best = sets - 1;
        for (int set = 0; set < sets; set++) {
            if (Integer.bitCount(set) < Integer.bitCount(best) && atPeace((sets - 1) & ~set)) {
                best = set;
            }
        }
        return best;
    }

    private boolean atPeace(int staying) {
        for (int i = 0; i < MOST_PARTIES; i++) {
            if ((staying >> i & 1) != 0 && (rivalsOf[i] & staying) != 0) {
                return false;
            }
        }
        return true;
    }

    /** Who leaves is no RIVAL of anybody: its WEIGHT in the row becomes 0. */
    private void dropLeaving(Shelf s) {
        for (int i = 0; i < s.size && i < MOST_ELEMENTS; i++) {
            int leaves = s.cells[i];
            if (leaves >= 0 && leaves < MOST_READINGS) {
                weights[leaves] = 0;
            }
        }
    }

    private static boolean isAngle(int angle) {
        return within(angle, 0, CIRCLE - 1);
    }

    private static int fieldAt(Field f, int place, int day) {
        return f.at(place / HIGH, place % HIGH, day);
    }

    private int trueAngle(int angle, int place, int day) {
        return Math.floorMod(angle + fieldAt(now.field, place, day), CIRCLE);
    }

    private Field chartAt(int i) {
        return i >= 0 && i < now.chartCount && i < MOST_CHARTS ? now.charts[i] : null;
    }

    private boolean anyOff(Shelf s, int day, int much) {
        for (int i = 0; i < s.size && i < MOST_ELEMENTS; i++) {
            if (Math.abs(fieldAt(now.field, s.cells[i], day) - ownValues[i]) > much) {
                return true;
            }
        }
        return false;
    }

    // ---- the image, what is told

    public int image() {
        kept.take(now);
        imageTaken = true;
        return now.edition;
    }

    public int restore() {
        if (!imageTaken) {
            return CANNOT;
        }
        now.take(kept);
        nightsKnown = false;
        return now.edition;
    }

    public int count(int what) {
        switch (what) {
            case 0: return now.readingCount;
            case 1: return now.ruleCount;
            case 2: return now.voyageCount;
            case 3: return now.field.epochs;
            case 4: return now.chartCount;
            case 5: return now.offerCount;
            case 6: return now.edition;
            case 7: return now.landPlaces();
            case 8:
                weighAll(now.edition);
                return weightless();
            default: return NOT_SO;
        }
    }

    private int weightless() {
        int n = 0;
        for (int i = 0; i < now.readingCount && i < MOST_READINGS; i++) {
            if (weights[i] == 0) {
                n++;
            }
        }
        return n;
    }

    // ---- shelves

    public int keep(int d, int what, int k) {
        if (!isShelf(d) || !within(what, 0, 1)) {
            return NOT_SO;
        }
        Reading r = what == 1 ? readingAt(k) : null;
        if (what == 1 && r == null) {
            return NOT_SO;
        }
        shelves[d].hold(r);
        return 0;
    }

    public int row(int d, int sort, int n) {
        if (!isShelf(d) || !within(sort, BYTES, INTS) || n > MOST_ELEMENTS) {
            return NOT_SO;
        }
        if (n < 0) {
            return BELOW_0;
        }
        shelves[d].holdRow(sort, n);
        return 0;
    }

    public int put(int d, int i, int v) {
        int wrong = wrongRow(d, ANY_ROW);
        if (wrong != 0) {
            return wrong;
        }
        return shelves[d].store(i, v) ? 0 : NOT_THERE;
    }

    public long element(int d, int i) throws IllegalArgumentException, IllegalStateException {
        if (!isShelf(d)) {
            throw new IllegalArgumentException("no such shelf");
        }
        if (!shelves[d].has(i)) {
            throw new IllegalStateException("no row, or no such place in it");
        }
        return shelves[d].cells[i];
    }

    public int copy(int d, int i, int e, int j, int n) {
        if (!isShelf(d) || !isShelf(e)) {
            return NOT_SO;
        }
        Shelf from = shelves[d];
        Shelf to = shelves[e];
        if (from.isEmpty() || to.isEmpty()) {
            return NOTHING_HELD;
        }
        if (from.sort == NO_ROW || from.sort != to.sort) {
            return OTHER_KIND;
        }
        if (!from.hasRun(i, n) || !to.hasRun(j, n)) {
            return NOT_THERE;
        }
        System.arraycopy(from.cells, i, to.cells, j, n);
        return n;
    }

    public int heft(int d) {
        int wrong = wrongReading(d);
        if (wrong != 0) {
            return wrong;
        }
        Reading r = shelves[d].held;
        return r == null ? NOTHING_HELD : r.worth();
    }

    public int toss(int d) {
        int wrong = wrongReading(d);
        if (wrong != 0) {
            return wrong;
        }
        Reading r = shelves[d].held;
        return r == null ? NOTHING_HELD : caught(r, now.isLand(r.x(), r.y()));
    }

    private static boolean isShelf(int d) {
        return within(d, 0, SHELVES - 1);
    }

    /** The refusal if SHELF d has no ROW of a SORT (or of any); 0 if it has. */
    private int wrongRow(int d, int sort) {
        if (!isShelf(d)) {
            return NOT_SO;
        }
        Shelf s = shelves[d];
        if (s.isEmpty()) {
            return NOTHING_HELD;
        }
        boolean fits = s.sort != NO_ROW && (sort == ANY_ROW || s.sort == sort);
        return fits ? 0 : OTHER_KIND;
    }

    private int wrongReading(int d) {
        if (!isShelf(d)) {
            return NOT_SO;
        }
        if (shelves[d].isEmpty()) {
            return NOTHING_HELD;
        }
        return shelves[d].held == null ? OTHER_KIND : 0;
    }

    private static int caught(Reading r, boolean onLand) {
        try {
            r.fail(onLand);
        } catch (UnsupportedOperationException shaken) {
            return 100 + r.source;
        } catch (IllegalStateException plain) {
            return r.source;
        }
        return NO_FAILURE;
    }

    // ---- what the calls work on

    /** A READING never changes: the SHELVES, the IMAGE and what is now may hold one and the same. */
    private static class Reading {
        final int source;
        final int place;
        final int day;
        final int value;
        final int edition;

        Reading(int source, int place, int day, int value, int edition) {
            this.source = source;
            this.place = place;
            this.day = day;
            this.value = value;
            this.edition = edition;
        }

        int kind() {
            return 0;
        }

        int heading() {
            return 0;
        }

        int weight() {
            return 8;
        }

        int span() {
            return 20;
        }

        /** The HEFT. */
        int worth() {
            return 100 + weight() + span();
        }

        void fail(boolean onLand) {
            throw new IllegalStateException("a reading failed");
        }

        final int x() {
            return place / HIGH;
        }

        final int y() {
            return place % HIGH;
        }
    }

    private static final class Ship extends Reading {
        private final int heading;

        Ship(int source, int place, int day, int value, int edition, int heading) {
            super(source, place, day, value, edition);
            this.heading = heading;
        }

        int kind() {
            return SHIP;
        }

        int heading() {
            return heading;
        }

        int weight() {
            return super.weight() / 2;
        }

        int span() {
            return super.span() + 15;
        }

        int worth() {
            return super.worth() + 10 * heading;
        }
    }

    private static final class Plan extends Reading {
        Plan(int source, int place, int day, int value, int edition) {
            super(source, place, day, value, edition);
        }

        int kind() {
            return PLAN;
        }

        int weight() {
            return super.weight() - 2;
        }

        int span() {
            return super.span() + 10;
        }

        int worth() {
            return super.worth() + x();
        }

        void fail(boolean onLand) {
            if (!onLand) {
                super.fail(onLand);
            }
        }
    }

    private static class Station extends Reading {
        Station(int source, int place, int day, int value, int edition) {
            super(source, place, day, value, edition);
        }

        int kind() {
            return STATION;
        }

        int weight() {
            return 2 * super.weight();
        }

        int span() {
            return super.span() / 4;
        }

        int worth() {
            return super.worth() + 200;
        }
    }

    private static final class Shaken extends Station {
        Shaken(int source, int place, int day, int value, int edition) {
            super(source, place, day, value, edition);
        }

        int kind() {
            return SHAKEN;
        }

        int weight() {
            return super.weight() / 4;
        }

        int span() {
            return super.span() + 40;
        }

        int worth() {
            return 2 * super.worth();
        }

        /** Another class of exception than the plain one, by which it is told apart when caught. */
        void fail(boolean onLand) {
            throw new UnsupportedOperationException("a shaken station failed");
        }
    }

    private static final class Copied extends Reading {
        Copied(int source, int place, int day, int value, int edition) {
            super(source, place, day, value, edition);
        }

        int kind() {
            return COPIED;
        }

        int weight() {
            return 0;
        }

        void fail(boolean onLand) {
            // nobody took this reading, so nothing failed
        }
    }

    /**
     * A RULE, turned from its text to postfix code: the text's nesting is then behind us, and a READING is
     * weighed in one pass without recursion.
     */
    private static final class Rule {
        private static final int NEVER = LAST_EDITION + 1;
        private static final int DEEPEST = 8;
        private static final int MOST_DIGITS = 4;
        /** Code from 0 on is a NUMBER; FIELDS are -1 to -10, in the order of their letters. */
        private static final int PLUS = -11;
        private static final int MINUS = -12;
        private static final int TIMES = -13;
        private static final int BY = -14;
        /** On the stack: the second EXPR of a choice is being read; in the code: choose. */
        private static final int CHOICE = -15;
        private static final int BRACKET = -16;
        private static final int QUESTION = -17;

        private int purpose;
        private int told;
        private int struck;
        private final int[] code = new int[MOST_ELEMENTS];
        private int size;
        /** Signs that wait for their operands while a text is read; values while a READING is weighed. */
        private final int[] stack = new int[MOST_ELEMENTS];
        private int top;
        private int deep;
        private int digits;
        private boolean wantsAtom;

        void begin(int edition) {
            told = edition;
            struck = NEVER;
        }

        boolean strikeOut(int edition) {
            if (struck != NEVER) {
                return false;
            }
            struck = edition;
            return true;
        }

        boolean isFor(int purpose, int e) {
            return this.purpose == purpose && told <= e && e < struck;
        }

        void take(Rule other) {
            purpose = other.purpose;
            told = other.told;
            struck = other.struck;
            size = other.size;
            System.arraycopy(other.code, 0, code, 0, MOST_ELEMENTS);
        }

        /** The FAULT of a text, or NONE: then it is this RULE's. */
        int read(int[] text, int n) {
            int end = Math.min(n, text.length);
            purpose = end > 0 ? signIn(PURPOSES, text[0]) : -1;
            if (purpose < 0) {
                return 0;
            }
            if (end < 2 || text[1] != ':') {
                return 1;
            }
            size = 0;
            top = 0;
            deep = 0;
            digits = 0;
            wantsAtom = true;
            for (int i = 2; i < end; i++) {
                if (!goesOn(text[i])) {
                    return i;
                }
            }
            return !wantsAtom && endsWhole() ? NONE : end;
        }

        private static int signIn(String signs, int sign) {
            return sign > 0 && sign < 128 ? signs.indexOf((char) sign) : -1;
        }

        private boolean goesOn(int sign) {
            if (sign >= '0' && sign <= '9') {
                return addDigit(sign - '0');
            }
            digits = 0;
            if (!wantsAtom) {
                return goesOnBehindAtom(sign);
            }
            if (sign == '(') {
                deep++;
                return deep <= DEEPEST && push(BRACKET);
            }
            int field = signIn(FIELDS, sign);
            wantsAtom = false;
            return field >= 0 && emit(-1 - field);
        }

        private boolean addDigit(int digit) {
            if (wantsAtom) {
                wantsAtom = false;
                digits = 1;
                return emit(digit);
            }
            // digits is 0 too behind a FIELD and behind a bracket: there no digit goes on
            if (digits < 1 || digits >= MOST_DIGITS || size < 1 || code[size - 1] == 0) {
                return false;
            }
            code[size - 1] = 10 * code[size - 1] + digit;
            digits++;
            return true;
        }

        private boolean goesOnBehindAtom(int sign) {
            wantsAtom = sign != ')';
            switch (sign) {
                case '+':
                    return settle(BY) && push(PLUS);
                case '-':
                    return settle(BY) && push(MINUS);
                case '*':
                    return settleProduct() && push(TIMES);
                case '/':
                    return settleProduct() && push(BY);
                case '?':
                    return settle(BY) && push(QUESTION);
                case ':':
                    return settle(CHOICE) && pop(QUESTION) && push(CHOICE);
                case ')':
                    deep--;
                    return settle(CHOICE) && pop(BRACKET);
                default:
                    return false;
            }
        }

        /** Signs on top of the stack become code, down to one that is below the last that binds no less. */
        private boolean settle(int last) {
            while (top > 0 && stack[top - 1] >= last) {
                top--;
                if (!emit(stack[top])) {
                    return false;
                }
            }
            return true;
        }

        private boolean settleProduct() {
            boolean waits = top > 0 && (stack[top - 1] == TIMES || stack[top - 1] == BY);
            if (!waits) {
                return true;
            }
            top--;
            return emit(stack[top]);
        }

        private boolean endsWhole() {
            return settle(CHOICE) && top == 0;
        }

        private boolean push(int sign) {
            if (top < 0 || top >= stack.length) {
                return false;
            }
            stack[top] = sign;
            top++;
            return true;
        }

        private boolean pop(int sign) {
            if (top < 1 || stack[top - 1] != sign) {
                return false;
            }
            top--;
            return true;
        }

        private boolean emit(int sign) {
            if (size < 0 || size >= code.length) {
                return false;
            }
            code[size] = sign;
            size++;
            return true;
        }

        /** What the EXPR is with these FIELDS. Both ways of a choice are worked out: neither can do harm. */
        int answer(int[] fields) {
            top = 0;
            for (int i = 0; i < size && i < code.length; i++) {
                int sign = code[i];
                int field = -1 - sign;
                if (sign >= 0) {
                    push(sign);
                } else if (field < fields.length) {
                    push(fields[field]);
                } else if (sign == CHOICE) {
                    choose();
                } else {
                    combine(sign);
                }
            }
            return top == 1 ? stack[0] : 0;
        }

        private void choose() {
            if (top < 3) {
                return;
            }
            top -= 2;
            stack[top - 1] = stack[top - 1] > 0 ? stack[top] : stack[top + 1];
        }

        private void combine(int sign) {
            if (top < 2) {
                return;
            }
            top--;
            int a = stack[top - 1];
            int b = stack[top];
            int answer = 0;
            switch (sign) {
                case PLUS:
                    answer = a + b;
                    break;
                case MINUS:
                    answer = a - b;
                    break;
                case TIMES:
                    answer = a * b;
                    break;
                default:
                    answer = b == 0 ? 0 : a / b;
                    break;
            }
            stack[top - 1] = answer;
        }
    }

    /** A VOYAGE as its places: each row's first is where it began, the next ones are behind LEG 0, 1 .. */
    private static final class Voyage {
        final int[] xs = new int[MOST_LEGS + 1];
        final int[] ys = new int[MOST_LEGS + 1];
        final int[] spans = new int[MOST_LEGS + 1];
        int legs;
        /** LEGS behind the last SIGHT, which the next one closes. */
        private int open;

        void begin(int x, int y) {
            legs = 0;
            open = 0;
            xs[0] = x;
            ys[0] = y;
            spans[0] = 0;
        }

        boolean goOn(int east, int north) {
            if (legs < 0 || legs >= MOST_LEGS) {
                return false;
            }
            open++;
            append(xs[legs] + east, ys[legs] + north);
            return true;
        }

        /** Nothing closes these LEGS again later: their places may be changed for good. */
        boolean closeAt(int x, int y) {
            if (legs < 0 || legs >= MOST_LEGS) {
                return false;
            }
            int n = open;
            int a = xs[legs] - x;
            int b = ys[legs] - y;
            for (int i = 1; i <= n && i <= legs; i++) {
                int at = legs - n + i;
                if (at < 1 || at > MOST_LEGS) {
                    break;
                }
                xs[at] -= a * i / n;
                ys[at] -= b * i / n;
                spans[at] = Math.min(i, n - i);
            }
            open = 0;
            append(x, y);
            return true;
        }

        private void append(int x, int y) {
            legs++;
            xs[legs] = x;
            ys[legs] = y;
            spans[legs] = open;
        }

        void take(Voyage other) {
            System.arraycopy(other.xs, 0, xs, 0, MOST_LEGS + 1);
            System.arraycopy(other.ys, 0, ys, 0, MOST_LEGS + 1);
            System.arraycopy(other.spans, 0, spans, 0, MOST_LEGS + 1);
            legs = other.legs;
            open = other.open;
        }
    }

    /** NUMBERS and DAYS of EPOCHS: THE FIELD as it is now, or as a CHART keeps it. */
    private static final class Field {
        final int[] days = new int[MOST_EPOCHS];
        final int[] numbers = new int[MOST_EPOCHS * NUMBERS];
        int epochs;
        /** Of a CHART: the DAY that it is for. */
        int chartDay;

        int lastDay() {
            return epochs > 0 && epochs <= MOST_EPOCHS ? days[epochs - 1] : -1;
        }

        boolean addEpoch(int day) {
            if (epochs < 0 || epochs >= MOST_EPOCHS) {
                return false;
            }
            days[epochs] = day;
            for (int which = 0; which < NUMBERS; which++) {
                numbers[NUMBERS * epochs + which] = 0;
            }
            epochs++;
            return true;
        }

        int at(int x, int y, int day) {
            return after(epochsBy(day), x, y, day);
        }

        /** How many EPOCHS have begun by a DAY. */
        int epochsBy(int day) {
            int n = 0;
            while (n < epochs && n < MOST_EPOCHS && days[n] <= day) {
                n++;
            }
            return n;
        }

        /** The VALUE on a DAY by which so many EPOCHS have begun. */
        int after(int begun, int x, int y, int day) {
            if (epochs < 1) {
                return 0;
            }
            if (begun < 1) {
                return ofEpoch(0, x, y);
            }
            int earlier = ofEpoch(begun - 1, x, y);
            if (begun >= epochs || begun >= MOST_EPOCHS) {
                return earlier;
            }
            int apart = days[begun] - days[begun - 1];
            if (apart < 1) {
                return earlier;
            }
            long change = ofEpoch(begun, x, y) - earlier;
            return earlier + (int) (change * (day - days[begun - 1]) / apart);
        }

        private int ofEpoch(int epoch, int x, int y) {
            int at = NUMBERS * epoch;
            if (at < 0 || at + 3 >= numbers.length) {
                return 0;
            }
            return numbers[at] + numbers[at + 1] * x / 10 + numbers[at + 2] * y / 10 + numbers[at + 3] * x * y / 100;
        }

        /** The square of how far a NUMBER is from the one behind it in the row of the same sort; 0 at either end. */
        long stepSquared(int at) {
            int next = at + NUMBERS;
            if (at < 0 || next >= NUMBERS * epochs || next >= numbers.length) {
                return 0;
            }
            long step = numbers[next] - numbers[at];
            return step * step;
        }

        void take(Field other) {
            System.arraycopy(other.days, 0, days, 0, MOST_EPOCHS);
            System.arraycopy(other.numbers, 0, numbers, 0, MOST_EPOCHS * NUMBERS);
            epochs = other.epochs;
            chartDay = other.chartDay;
        }
    }

    /** All that there is but SHELVES; twice in each object: as it is now, and THE IMAGE. */
    private static final class State {
        /** A row y each, its PLACES as bits. */
        private final long[] land = new long[HIGH];
        final Reading[] readings = new Reading[MOST_READINGS];
        int readingCount;
        final Rule[] rules = new Rule[MOST_RULES];
        int ruleCount;
        final Voyage[] voyages = new Voyage[MOST_VOYAGES];
        int voyageCount;
        final Field field = new Field();
        final Field[] charts = new Field[MOST_CHARTS];
        int chartCount;
        final int[] iron = new int[SOURCES * HEADINGS];
        final int[] offerPlaces = new int[MOST_OFFERS];
        final int[] offerCosts = new int[MOST_OFFERS];
        int offerCount;
        final int[] settings = {2, 30, 0};
        int edition;

        State() {
            for (int i = 0; i < MOST_RULES; i++) {
                rules[i] = new Rule();
            }
            for (int i = 0; i < MOST_VOYAGES; i++) {
                voyages[i] = new Voyage();
            }
            for (int i = 0; i < MOST_CHARTS; i++) {
                charts[i] = new Field();
            }
        }

        void take(State other) {
            System.arraycopy(other.land, 0, land, 0, HIGH);
            for (int i = 0; i < MOST_READINGS; i++) {
                readings[i] = other.readings[i];
            }
            readingCount = other.readingCount;
            for (int i = 0; i < MOST_RULES; i++) {
                rules[i].take(other.rules[i]);
            }
            ruleCount = other.ruleCount;
            for (int i = 0; i < MOST_VOYAGES; i++) {
                voyages[i].take(other.voyages[i]);
            }
            voyageCount = other.voyageCount;
            field.take(other.field);
            for (int i = 0; i < MOST_CHARTS; i++) {
                charts[i].take(other.charts[i]);
            }
            chartCount = other.chartCount;
            System.arraycopy(other.iron, 0, iron, 0, SOURCES * HEADINGS);
            System.arraycopy(other.offerPlaces, 0, offerPlaces, 0, MOST_OFFERS);
            System.arraycopy(other.offerCosts, 0, offerCosts, 0, MOST_OFFERS);
            offerCount = other.offerCount;
            System.arraycopy(other.settings, 0, settings, 0, SMOOTH + 1);
            edition = other.edition;
        }

        private static long bits(int x0, int x1) {
            return ((1L << (x1 - x0 + 1)) - 1) << x0;
        }

        int lay(int x0, int x1, int y, boolean is) {
            if (y < 0 || y >= HIGH) {
                return 0;
            }
            long before = land[y];
            long told = bits(x0, x1);
            land[y] = is ? before | told : before & ~told;
            return Long.bitCount(before ^ land[y]);
        }

        boolean isLand(int x, int y) {
            return y >= 0 && y < HIGH && (land[y] >> x & 1) != 0;
        }

        int landPlaces() {
            int n = 0;
            for (int y = 0; y < HIGH; y++) {
                n += Long.bitCount(land[y]);
            }
            return n;
        }

        /** The RULE in force by an EDITION; -1 without one. */
        int ruleNumber(int purpose, int e) {
            for (int i = Math.min(ruleCount, MOST_RULES) - 1; i >= 0; i--) {
                if (rules[i].isFor(purpose, e)) {
                    return i;
                }
            }
            return -1;
        }

        Rule ruleFor(int purpose, int e) {
            int i = ruleNumber(purpose, e);
            return i < 0 ? null : rules[i];
        }

        long smoothCost() {
            long squares = 0;
            for (int at = 0; at < MOST_EPOCHS * NUMBERS; at++) {
                squares += field.stepSquared(at);
            }
            return settings[SMOOTH] * squares;
        }

        /** That part of it which one NUMBER has to do with. */
        long smoothAround(int at) {
            return settings[SMOOTH] * (field.stepSquared(at - NUMBERS) + field.stepSquared(at));
        }

        int costOfOffers(int set) {
            int cost = 0;
            for (int i = 0; i < offerCount && i < MOST_OFFERS; i++) {
                if ((set >> i & 1) != 0) {
                    cost += offerCosts[i];
                }
            }
            return cost;
        }

        int seenBy(int set) {
            int seen = 0;
            for (int y = 0; y < HIGH; y++) {
                long places = 0;
                for (int i = 0; i < offerCount && i < MOST_OFFERS; i++) {
                    if ((set >> i & 1) != 0) {
                        places |= seenInRow(offerPlaces[i], y);
                    }
                }
                seen += Long.bitCount(places);
            }
            return seen;
        }

        private static long seenInRow(int place, int y) {
            if (Math.abs(place % HIGH - y) > SIGHT_REACH) {
                return 0;
            }
            int x = place / HIGH;
            return bits(Math.max(0, x - SIGHT_REACH), Math.min(WIDE - 1, x + SIGHT_REACH));
        }
    }

    private static final class Shelf {
        /** Null if nothing or a ROW is held. */
        Reading held;
        int sort = NO_ROW;
        int size;
        final int[] cells = new int[MOST_ELEMENTS];

        boolean isEmpty() {
            return held == null && sort == NO_ROW;
        }

        void hold(Reading r) {
            held = r;
            sort = NO_ROW;
            size = 0;
        }

        void holdRow(int sort, int n) {
            held = null;
            this.sort = sort;
            size = n;
            for (int i = 0; i < MOST_ELEMENTS; i++) {
                cells[i] = 0;
            }
        }

        boolean has(int i) {
            return sort != NO_ROW && i >= 0 && i < size && i < cells.length;
        }

        /** Whether n elements stand from i on; it is so of 0 right behind the last one, too. */
        boolean hasRun(int i, int n) {
            return sort != NO_ROW && i >= 0 && n >= 0 && n <= size && i <= size - n;
        }

        boolean store(int i, int v) {
            if (!has(i)) {
                return false;
            }
            switch (sort) {
                case BYTES:
                    cells[i] = (byte) v;
                    break;
                case SHORTS:
                    cells[i] = (short) v;
                    break;
                default:
                    cells[i] = v;
                    break;
            }
            return true;
        }
    }
}

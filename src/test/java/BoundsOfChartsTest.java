/** Promises 34 to 40 and what the terms say of PLANS, CHARTS and NEXT: a test for each sentence with a boundary. */
public final class BoundsOfChartsTest {
    private static final int MIN = Integer.MIN_VALUE;
    private static final int MAX = Integer.MAX_VALUE;
    private static final int[] NO_ANGLES = {-1, 3600, 3601, MIN, MAX};
    private static final int[] NO_PLACES = {-1, 648, MIN, MAX};
    private static final int[] NO_DAYS = {-1, -2, 800001, MIN, MAX};

    public static void main(String[] args) {
        turnedHasItsEnds();
        turnedIsModulo3600();
        turnedOfLargeFields();
        leftHasItsEnds();
        leftIs0To1800();
        leftIsFromTrueToTrue();
        chartRefuses();
        chartsAreSix();
        aChartKeepsNumbers();
        offHasItsEnds();
        offThen();
        offNow();
        lateHasItsEnds();
        lateRefusesInOrder();
        latePlacesAreTold();
        lateIsTheFirstStep();
        lateGoesUpTo100Steps();
        lateIsAboveSoMuchWithoutSign();
        lateAtSomePlace();
        lateBehindTheLastDay();
        offersHaveTheirEnds();
        offersAreEight();
        nextHasItsEnds();
        aPlaceSeesFourOff();
        seenTogether();
        coinIsEnough();
        cheapestOfSeveral();
        leastAsBits();
        allOfEight();
        Due.end("BoundsOfChartsTest");
    }

    /** The FIELD is so much on each DAY, told in pairs. */
    private static NeedleCharts field(int... daysAndValues) {
        NeedleCharts x = new NeedleCharts();
        for (int i = 0; i < daysAndValues.length; i += 2) {
            x.epoch(daysAndValues[i]);
            x.number(i / 2, 0, daysAndValues[i + 1]);
        }
        return x;
    }

    private static void turnedHasItsEnds() {
        Due.says("34: an ANGLE (0 .. 3599) at a PLACE; -1");
        NeedleCharts x = field(0, 5);
        for (int angle : NO_ANGLES) {
            Due.is(-1, x.turned(angle, 0, 0, 0), "ANGLE " + angle);
        }
        for (int place : NO_PLACES) {
            Due.is(-1, x.turned(0, place, 0, 0), "PLACE " + place);
        }
        for (int day : NO_DAYS) {
            Due.is(-1, x.turned(0, 0, day, 0), "from DAY " + day);
            Due.is(-1, x.turned(0, 0, 0, day), "to DAY " + day);
        }
        Due.is(0, x.turned(0, 0, 0, 0), "the least of each");
        Due.is(3599, x.turned(3599, 647, 800000, 800000), "the most of each");
    }

    private static void turnedIsModulo3600() {
        Due.says("TRUE: ANGLE and the FIELD's VALUE, modulo 3600; TURNED: less the FIELD's VALUE, modulo 3600");
        int[][] cases = {
            {0, 0, 1, 3599}, {0, 1, 0, 1}, {3599, 1, 0, 0}, {3599, 0, 0, 3599}, {3599, 0, -1, 0}, {0, -1, 0, 3599},
            {1, -1, 0, 0}, {0, 0, 3600, 0}, {0, 3600, 0, 0}, {0, -3600, 0, 0}, {0, 0, -3600, 0}, {5, 7200, -7200, 5},
            {0, 1800, 0, 1800}, {1800, 1800, 0, 0}, {0, 9999, -9999, 19998 - 5 * 3600}, {0, -9999, 9999, 6 * 3600 - 19998},
        };
        for (int[] c : cases) {
            NeedleCharts x = field(100, c[1], 200, c[2]);
            Due.is(c[3], x.turned(c[0], 9, 100, 200), c[0] + " by " + c[1] + " to " + c[2]);
        }
    }

    private static void turnedOfLargeFields() {
        Due.says("modulo 3600 of the largest FIELD");
        NeedleCharts x = field(0, 9999, 1, -9999);
        for (int which = 0; which < 4; which++) {
            x.number(0, which, 9999);
            x.number(1, which, -9999);
        }
        int most = 9999 + 34996 + 16998 + 59494;
        Due.is(Math.floorMod(2 * most, 3600), x.turned(0, 647, 0, 1), "from the most to the least");
        Due.is(Math.floorMod(-2 * most, 3600), x.turned(0, 647, 1, 0), "from the least to the most");
    }

    private static void leftHasItsEnds() {
        Due.says("35: an ANGLE of a DAY and another one of another DAY, at one PLACE; -1");
        NeedleCharts x = field(0, 5);
        for (int angle : NO_ANGLES) {
            Due.is(-1, x.left(0, angle, 0, 0, 0), "the one ANGLE " + angle);
            Due.is(-1, x.left(0, 0, 0, angle, 0), "the other ANGLE " + angle);
        }
        for (int place : NO_PLACES) {
            Due.is(-1, x.left(place, 0, 0, 0, 0), "PLACE " + place);
        }
        for (int day : NO_DAYS) {
            Due.is(-1, x.left(0, 0, day, 0, 0), "the one DAY " + day);
            Due.is(-1, x.left(0, 0, 0, 0, day), "the other DAY " + day);
        }
        Due.is(0, x.left(0, 0, 0, 0, 0), "the least of each");
        Due.is(0, x.left(647, 3599, 800000, 3599, 800000), "the most of each");
    }

    private static void leftIs0To1800() {
        Due.says("LEFT: 0 .. 1800");
        NeedleCharts x = new NeedleCharts();
        int[][] cases = {
            {0, 0, 0}, {0, 1, 1}, {0, 1799, 1799}, {0, 1800, 1800}, {0, 1801, 1799}, {0, 3599, 1}, {3599, 1, 2},
            {900, 2700, 1800}, {900, 2701, 1799}, {899, 2700, 1799}, {1800, 3599, 1799},
        };
        for (int[] c : cases) {
            Due.is(c[2], x.left(0, c[0], 0, c[1], 0), "left " + c[0] + " " + c[1]);
            Due.is(c[2], x.left(0, c[1], 0, c[0], 0), "left " + c[1] + " " + c[0]);
        }
    }

    private static void leftIsFromTrueToTrue() {
        Due.says("LEFT between two lines: the way from TRUE to TRUE");
        int[][] cases = {
            {0, 0, 0, 10, 10}, {10, 0, 0, 10, 0}, {0, 10, 10, 0, 0}, {3599, 1, 0, 0, 0}, {3599, 0, 0, 1, 2},
            {0, -1, 0, 1, 2}, {0, 3600, 0, 0, 0}, {0, 9999, 0, -9999, 1602}, {0, 1800, 0, 0, 1800}, {0, 1801, 0, 0, 1799},
        };
        for (int[] c : cases) {
            NeedleCharts x = field(100, c[1], 200, c[3]);
            Due.is(c[4], x.left(9, c[0], 100, c[2], 200), c[0] + " by " + c[1] + " to " + c[2] + " by " + c[3]);
        }
    }

    private static void chartRefuses() {
        Due.says("36: -1; -2: there are 6; -3: no EPOCH");
        NeedleCharts x = new NeedleCharts();
        for (int day : NO_DAYS) {
            Due.is(-1, x.chart(day), "-1 is ahead of -3: DAY " + day);
        }
        Due.is(-3, x.chart(0), "no EPOCH");
        Due.is(-3, x.chart(800000), "no EPOCH");
        x.epoch(500);
        for (int day : NO_DAYS) {
            Due.is(-1, x.chart(day), "DAY " + day);
        }
        Due.is(0, x.count(4), "a refused call changes nothing");
        Due.is(0, x.chart(0), "the first DAY");
        Due.is(1, x.chart(800000), "the last DAY");
    }

    private static void chartsAreSix() {
        Due.says("a CHART, 6 at most; 36: its number; -2");
        NeedleCharts x = field(0, 5);
        for (int i = 0; i < 6; i++) {
            int none = i;
            Due.illegal(() -> x.off(none, 0, 0, true), "no CHART " + i);
            Due.is(i, x.chart(i), "chart " + i);
        }
        Due.is(-2, x.chart(0), "one more");
        Due.is(-1, x.chart(-1), "-1 is ahead of -2");
        Due.is(-1, x.chart(800001), "-1 is ahead of -2");
        Due.is(6, x.count(4), "CHARTS");
        Due.is(0, x.off(5, 0, 0, true), "the last one");
    }

    private static void aChartKeepsNumbers() {
        Due.says("it keeps NUMBERS of EPOCHS, their DAYS, as they are");
        NeedleCharts x = field(100, 10, 200, 20);
        for (int which = 1; which < 4; which++) {
            x.number(0, which, 10);
        }
        x.chart(100);
        long own = x.field(35, 17, 100);
        for (int which = 0; which < 4; which++) {
            x.number(0, which, -500);
            x.number(1, which, 700);
        }
        x.epoch(201);
        x.number(2, 0, 9999);
        Due.is(20 - own, x.off(0, 647, 300, false), "behind its last EPOCH, which is not the last now");
        Due.is(0, x.off(0, 647, 0, false), "ahead of its first EPOCH");
        Due.is(9999 - own, x.off(0, 647, 300, true), "what is known now");
        x.reading(0, 0, 0, 0, 50, 0);
        x.solve(60);
        Due.is(20 - own, x.off(0, 647, 300, false), "behind SOLVING, too");
    }

    private static void offHasItsEnds() {
        Due.says("37: IllegalArgumentException: none such");
        NeedleCharts x = field(0, 5);
        for (boolean now : new boolean[] {true, false}) {
            Due.illegal(() -> x.off(0, 0, 0, now), "off without CHARTS");
        }
        x.chart(9);
        for (boolean now : new boolean[] {true, false}) {
            for (int chart : new int[] {-1, 1, 5, 6, MIN, MAX}) {
                Due.illegal(() -> x.off(chart, 0, 0, now), "CHART " + chart);
            }
            for (int place : NO_PLACES) {
                Due.illegal(() -> x.off(0, place, 0, now), "PLACE " + place);
            }
            for (int day : NO_DAYS) {
                Due.illegal(() -> x.off(0, 0, day, now), "DAY " + day);
            }
            Due.is(0, x.off(0, 0, 0, now), "the least of each");
            Due.is(0, x.off(0, 647, 800000, now), "the most of each");
        }
    }

    private static void offThen() {
        Due.says("OFF by what was known then: its own FIELD's VALUE on that DAY less that on its DAY");
        NeedleCharts x = field(100, 10, 200, 110);
        x.chart(150);
        x.number(0, 0, 1000);
        x.number(1, 0, 1000);
        int[] days = {0, 100, 149, 150, 151, 200, 800000};
        int[] due = {-50, -50, -1, 0, 1, 50, 50};
        for (int i = 0; i < days.length; i++) {
            Due.is(due[i], x.off(0, 0, days[i], false), "on DAY " + days[i]);
        }
    }

    private static void offNow() {
        Due.says("OFF by what is known now: the FIELD's VALUE on that DAY, as it is now, less its own on its DAY");
        NeedleCharts x = field(100, 10, 200, 110);
        x.chart(150);
        Due.is(0, x.off(0, 0, 150, true), "nothing has changed");
        Due.is(50, x.off(0, 0, 800000, true), "as its own");
        x.number(0, 0, 1010);
        Due.is(1010 - 60, x.off(0, 0, 0, true), "the FIELD as it is now, its own as it was");
        Due.is(560 - 60, x.off(0, 0, 150, true), "on its own DAY, too");
        x.number(1, 0, -9999);
        Due.is(-9999 - 60, x.off(0, 0, 200, true), "below");
    }

    private static NeedleCharts charted(int... daysAndValues) {
        NeedleCharts x = field(daysAndValues);
        x.chart(0);
        x.row(0, 1, 1);
        return x;
    }

    private static void lateHasItsEnds() {
        Due.says("38: so much (0 .. 9999); -1");
        NeedleCharts x = charted(0, -9999, 365, 9999);
        for (int much : new int[] {-1, 10000, MIN, MAX}) {
            Due.is(-1, x.late(0, 0, much), "so much " + much);
        }
        for (int chart : new int[] {-1, 1, 5, 6, MIN, MAX}) {
            Due.is(-1, x.late(chart, 0, 5), "CHART " + chart);
        }
        for (int d : new int[] {-1, 8, MIN, MAX}) {
            Due.is(-1, x.late(0, d, 5), "SHELF " + d);
        }
        Due.is(365, x.late(0, 0, 0), "0");
        Due.is(365, x.late(0, 0, 9999), "9999");
    }

    private static void lateRefusesInOrder() {
        Due.says("38: -1, -11, -12 (no ROW of shorts), -13: one is no PLACE");
        NeedleCharts x = charted(0, 0);
        x.reading(0, 0, 0, 0, 0, 0);
        x.keep(1, 1, 0);
        x.row(2, 0, 1);
        x.row(3, 2, 1);
        Due.numbers(x, 4, 1, 648);
        int[] shelves = {5, 1, 2, 3, 4, 0};
        int[] answers = {-11, -12, -12, -12, -13, -4};
        for (int i = 0; i < shelves.length; i++) {
            Due.is(answers[i], x.late(0, shelves[i], 0), "late " + shelves[i]);
            Due.is(-1, x.late(1, shelves[i], 0), "no CHART is ahead of it");
            Due.is(-1, x.late(0, shelves[i], -1), "not as told is ahead of it");
        }
    }

    private static void latePlacesAreTold() {
        Due.says("38: -13: one is no PLACE");
        NeedleCharts x = charted(0, 0, 365, 100);
        for (int none : new int[] {-1, 648, 32767, -32768}) {
            for (int at = 0; at <= 2; at++) {
                x.row(0, 1, 3);
                x.put(0, at, none);
                Due.is(-13, x.late(0, 0, 50), none + " at " + at);
                Due.is(-13, x.late(0, 0, 500), none + " at " + at);
            }
        }
        Due.numbers(x, 0, 1, 0, 647, 65536);
        Due.is(365, x.late(0, 0, 50), "the lowest bits of 65536 are 0");
        x.row(0, 1, 0);
        Due.is(-4, x.late(0, 0, 0), "without PLACES none is TOO OLD");
        x.row(0, 1, 80);
        Due.is(365, x.late(0, 0, 0), "80 PLACES");
        x.put(0, 79, 648);
        Due.is(-13, x.late(0, 0, 0), "the last of 80 is none");
    }

    private static void lateIsTheFirstStep() {
        Due.says("the first DAY behind its own, by steps of 365");
        NeedleCharts x = charted(0, 0, 730, 730);
        Due.is(365, x.late(0, 0, 0), "not its own DAY, nor the one behind it");
        Due.is(365, x.late(0, 0, 364), "365 on the first step");
        Due.is(730, x.late(0, 0, 365), "730 on the second one");
        Due.is(-4, x.late(0, 0, 730), "never above 730");
        NeedleCharts peak = charted(0, 0, 364, 100, 366, 100, 368, 0);
        Due.is(365, peak.late(0, 0, 99), "on the step");
        NeedleCharts between = charted(0, 0, 300, 100, 360, 0);
        Due.is(-4, between.late(0, 0, 0), "between the steps nobody looks");
        NeedleCharts ahead = field(1000, 0, 1365, 0);
        ahead.chart(1000);
        ahead.row(0, 1, 1);
        ahead.number(0, 0, 50);
        Due.is(-4, ahead.late(0, 0, 0), "off on its own DAY alone");
        ahead.number(1, 0, 50);
        Due.is(1365, ahead.late(0, 0, 0), "365 behind its own");
    }

    private static void lateGoesUpTo100Steps() {
        Due.says("up to 100 of them");
        NeedleCharts x = charted(0, 0, 36499, 0, 36500, 10);
        Due.is(36500, x.late(0, 0, 0), "the hundredth step");
        NeedleCharts y = charted(0, 0, 36500, 0, 36501, 10);
        Due.is(-4, y.late(0, 0, 0), "a DAY behind it");
        NeedleCharts z = charted(0, 0, 36864, 0, 36865, 10);
        Due.is(-4, z.late(0, 0, 0), "there is no step more");
        NeedleCharts w = charted(0, 0, 36135, 10);
        Due.is(36135, w.late(0, 0, 9), "the ninety-ninth step");
    }

    private static void lateIsAboveSoMuchWithoutSign() {
        Due.says("above so much without sign");
        for (int sign = -1; sign <= 1; sign += 2) {
            NeedleCharts x = charted(0, 0, 365, 100 * sign);
            Due.is(365, x.late(0, 0, 99), "100 is above 99");
            Due.is(-4, x.late(0, 0, 100), "100 is not above 100");
            NeedleCharts y = charted(0, 0);
            Due.is(-4, y.late(0, 0, 0), "0 is not above 0");
            y.number(0, 0, sign);
            Due.is(365, y.late(0, 0, 0), "1 is above 0");
        }
    }

    private static void lateAtSomePlace() {
        Due.says("at which OFF (known now) at some told PLACE");
        NeedleCharts x = charted(0, 0, 365, 0);
        x.number(1, 1, 10);
        Due.numbers(x, 0, 1, 0, 18 * 5 + 17, 18 * 35);
        Due.is(365, x.late(0, 0, 34), "35 at the last");
        Due.is(-4, x.late(0, 0, 35), "nowhere above 35");
        Due.numbers(x, 0, 1, 18 * 35, 0, 0);
        Due.is(365, x.late(0, 0, 34), "35 at the first");
        Due.numbers(x, 0, 1, 0, 17);
        Due.is(-4, x.late(0, 0, 0), "nowhere");
        x.number(1, 1, 0);
        x.number(1, 2, -10);
        Due.is(365, x.late(0, 0, 16), "17 below, north");
    }

    private static void lateBehindTheLastDay() {
        Due.says("TOO OLD: the first DAY behind its own, though the last DAY is 800000");
        NeedleCharts x = field(800000, 5);
        x.chart(800000);
        x.row(0, 1, 1);
        Due.is(-4, x.late(0, 0, 0), "none");
        x.number(0, 0, 6);
        Due.is(800365, x.late(0, 0, 0), "the step behind it");
    }

    private static void offersHaveTheirEnds() {
        Due.says("39: a PLACE is offered for a COST (1 .. 999); -1");
        NeedleCharts x = new NeedleCharts();
        int[][] none = {
            {-1, 0, 1}, {36, 0, 1}, {0, -1, 1}, {0, 18, 1}, {0, 0, 0}, {0, 0, -1}, {0, 0, 1000}, {MIN, 0, 1}, {MAX, 0, 1},
            {0, MIN, 1}, {0, MAX, 1}, {0, 0, MIN}, {0, 0, MAX}, {17, 35, 1},
        };
        for (int[] n : none) {
            Due.is(-1, x.offer(n[0], n[1], n[2]), "offer " + n[0] + " " + n[1] + " " + n[2]);
        }
        Due.is(0, x.count(5), "a refused call changes nothing");
        Due.is(1, x.offer(0, 0, 1), "the least of each");
        Due.is(2, x.offer(35, 17, 999), "the most of each");
        Due.is(50, x.next(1000, 0), "both corners");
        Due.is(1000, x.next(1000, 2), "for 1 and 999");
        Due.is(1, x.next(999, 2), "999 is not enough for both: the cheapest that SEES 25");
    }

    private static void offersAreEight() {
        Due.says("PLACES that are offered, 8 at most; 39: how many are; -2: 8");
        NeedleCharts x = new NeedleCharts();
        for (int i = 1; i <= 8; i++) {
            Due.is(i, x.offer(4 * i, 8, 1), "offer " + i);
            Due.is(i, x.count(5), "offered");
        }
        Due.is(-2, x.offer(0, 0, 1), "one more");
        Due.is(-1, x.offer(36, 0, 1), "-1 is ahead of -2");
        Due.is(-1, x.offer(0, 0, 0), "-1 is ahead of -2");
        Due.is(-1, x.offer(0, 0, 1000), "-1 is ahead of -2");
        Due.is(8, x.count(5), "a refused call changes nothing");
    }

    private static void nextHasItsEnds() {
        Due.says("40: coin (0 .. 9999): what 0, 1, 2; -1");
        NeedleCharts x = new NeedleCharts();
        for (int round = 0; round <= 1; round++) {
            for (int coin : new int[] {-1, 10000, MIN, MAX}) {
                for (int what = 0; what <= 2; what++) {
                    Due.is(-1, x.next(coin, what), "coin " + coin);
                }
            }
            for (int what : new int[] {-1, 3, MIN, MAX}) {
                Due.is(-1, x.next(0, what), "what " + what);
                Due.is(-1, x.next(9999, what), "what " + what);
            }
            for (int what = 0; what <= 2; what++) {
                Due.is(0, x.next(0, what), "without coin none");
            }
            x.offer(10, 10, 1);
        }
        Due.is(81, x.next(1, 0), "SEEN");
        Due.is(1, x.next(9999, 1), "the set");
        Due.is(1, x.next(9999, 2), "what it costs");
        NeedleCharts none = new NeedleCharts();
        for (int what = 0; what <= 2; what++) {
            Due.is(0, none.next(9999, what), "without PLACES offered none");
        }
    }

    private static void aPlaceSeesFourOff() {
        Due.says("a PLACE SEES all PLACES at most 4 off (east and north each)");
        for (int x = 0; x <= 35; x++) {
            for (int y = 0; y <= 17; y++) {
                NeedleCharts charts = new NeedleCharts();
                charts.offer(x, y, 1);
                int wide = Math.min(35, x + 4) - Math.max(0, x - 4) + 1;
                int high = Math.min(17, y + 4) - Math.max(0, y - 4) + 1;
                Due.is(wide * high, charts.next(1, 0), "SEEN from " + x + " " + y);
            }
        }
    }

    private static void seenTogether() {
        Due.says("SEES the most PLACES together");
        for (int east = 0; east <= 10; east++) {
            for (int north = 0; north <= 10; north++) {
                NeedleCharts x = new NeedleCharts();
                x.offer(8, 4, 1);
                x.offer(8 + east, 4 + Math.min(north, 9), 1);
                int both = Math.max(0, 9 - east) * Math.max(0, 9 - Math.min(north, 9));
                Due.is(162 - both, x.next(2, 0), "SEEN from both, " + east + " and " + north + " apart");
                Due.is(both == 81 ? 1 : 3, x.next(2, 1), "the set");
            }
        }
    }

    private static void coinIsEnough() {
        Due.says("with so much coin");
        NeedleCharts x = new NeedleCharts();
        x.offer(4, 4, 300);
        x.offer(30, 4, 200);
        int[] coins = {0, 199, 200, 299, 300, 499, 500, 9999};
        int[] sets = {0, 0, 2, 2, 2, 2, 3, 3};
        int[] costs = {0, 0, 200, 200, 200, 200, 500, 500};
        for (int i = 0; i < coins.length; i++) {
            Due.is(sets[i], x.next(coins[i], 1), "the set with " + coins[i]);
            Due.is(costs[i], x.next(coins[i], 2), "what it costs with " + coins[i]);
            Due.is(81 * Integer.bitCount(sets[i]), x.next(coins[i], 0), "SEEN with " + coins[i]);
        }
    }

    private static void cheapestOfSeveral() {
        Due.says("of several the cheapest");
        NeedleCharts x = new NeedleCharts();
        x.offer(10, 10, 9);
        x.offer(20, 10, 8);
        x.offer(30, 10, 7);
        Due.is(4, x.next(9, 1), "the cheapest of three");
        Due.is(6, x.next(17, 1), "the cheapest two");
        Due.is(15, x.next(17, 2), "what they cost");
        NeedleCharts y = new NeedleCharts();
        y.offer(10, 10, 5);
        y.offer(10, 10, 4);
        y.offer(10, 11, 1);
        Due.is(6, y.next(99, 1), "one of two at one PLACE, the cheaper one");
        Due.is(90, y.next(99, 0), "SEEN");
        Due.is(5, y.next(99, 2), "what they cost");
        NeedleCharts more = new NeedleCharts();
        more.offer(3, 10, 1);
        more.offer(20, 10, 50);
        Due.is(2, more.next(50, 1), "81 for 50 are more than 72 for 1");
    }

    private static void leastAsBits() {
        Due.says("then the least as bits");
        NeedleCharts x = new NeedleCharts();
        for (int i = 0; i < 4; i++) {
            x.offer(10 + 9 * (i % 2), 10, 5);
        }
        Due.is(1, x.next(9, 1), "of four");
        Due.is(3, x.next(10, 1), "of four sets of two");
        Due.is(3, x.next(9999, 1), "with coin for all");
        NeedleCharts y = new NeedleCharts();
        y.offer(10, 10, 6);
        y.offer(20, 10, 2);
        y.offer(10, 10, 4);
        y.offer(20, 10, 4);
        y.offer(10, 10, 4);
        Due.is(6, y.next(9999, 1), "2 and 4 as the cheapest, the first that costs 4");
    }

    private static void allOfEight() {
        Due.says("8 at most");
        NeedleCharts x = new NeedleCharts();
        for (int i = 0; i < 8; i++) {
            x.offer(4 + 9 * (i % 4), 4 + 9 * (i / 4), 999);
        }
        Due.is(648, x.next(8 * 999, 0), "all PLACES");
        Due.is(255, x.next(8 * 999, 1), "all eight");
        Due.is(8 * 999, x.next(9999, 2), "what they cost");
        Due.is(567, x.next(8 * 999 - 1, 0), "one less");
        Due.is(127, x.next(8 * 999 - 1, 1), "the first seven");
        Due.is(7 * 999, x.next(8 * 999 - 1, 2), "what they cost");
    }
}

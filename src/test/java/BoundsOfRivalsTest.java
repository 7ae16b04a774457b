/** Promises 31 to 33 and what the terms say of RIVALS and PEACE: a test for each sentence with a boundary. */
public final class BoundsOfRivalsTest {
    private static final int MIN = Integer.MIN_VALUE;
    private static final int MAX = Integer.MAX_VALUE;

    public static void main(String[] args) {
        rivalIsOfTwoReadings();
        weightAbove0();
        daysNotMoreThan365Apart();
        placesNotMoreThanOneApart();
        valuesFartherApartThanSpans();
        spansByKindAndByRules();
        rivalsAreKnownByTheEdition();
        peaceHasItsEnds();
        peaceWithoutRivals();
        theFewest();
        theLeastSetAsBits();
        inThatOrder();
        theFirstTwelve();
        rivalsAmongTheTwelveAlone();
        peaceIsFoundAnew();
        peaceIsByTheEdition();
        judgeRefuses();
        judgeFindsTheFirstTwo();
        judgeOfAllReadings();
        numbersThatAreNoReading();
        Due.end("BoundsOfRivalsTest");
    }

    private static NeedleCharts values(int... values) {
        NeedleCharts x = new NeedleCharts();
        for (int v : values) {
            x.reading(0, 0, 0, 0, v, 0);
        }
        return x;
    }

    private static void rivalIsOfTwoReadings() {
        Due.says("31: two READINGS; 1, 0. -1 (one twice, too)");
        NeedleCharts x = values(0, 41, 80);
        for (int i : new int[] {0, 1, 2}) {
            Due.is(-1, x.rival(i, i), "one twice: " + i);
            for (int none : new int[] {-1, 3, 79, 80, MIN, MAX}) {
                Due.is(-1, x.rival(i, none), "rival " + i + " " + none);
                Due.is(-1, x.rival(none, i), "rival " + none + " " + i);
                Due.is(-1, x.rival(none, none), "rival " + none + " twice");
            }
        }
        Due.is(1, x.rival(0, 1), "41 apart");
        Due.is(0, x.rival(1, 2), "39 apart");
        Due.is(1, x.rival(2, 0), "80 apart");
        Due.is(-1, new NeedleCharts().rival(0, 1), "without READINGS");
    }

    private static void weightAbove0() {
        Due.says("with WEIGHT above 0");
        NeedleCharts x = values(0, 900);
        x.reading(5, 0, 0, 0, 900, 0);
        Due.is(1, x.rival(0, 1), "both");
        Due.is(0, x.rival(0, 2), "a COPIED one has none");
        Due.is(0, x.rival(2, 0), "a COPIED one has none");
        Due.rule(x, "g:1");
        Due.is(1, x.rival(0, 1), "1 is above 0");
        Due.is(1, x.rival(0, 2), "a COPIED one by the RULE");
        Due.rule(x, "g:v");
        Due.is(0, x.rival(0, 1), "0 is not");
        Due.is(0, x.rival(1, 0), "0 is not");
        Due.is(0, x.peace(-1), "so there is PEACE");
        Due.rule(x, "g:0-1");
        Due.is(0, x.rival(1, 2), "below 0 is 0");
        Due.rule(x, "g:1");
        Due.rule(x, "k:v");
        Due.is(0, x.rival(0, 1), "a struck one");
        Due.is(0, x.rival(1, 0), "a struck one");
    }

    private static void daysNotMoreThan365Apart() {
        Due.says("not two DAYS more than 365 apart");
        int[] days = {1000, 1365, 1366, 635, 634, 0, 800000};
        int[] due = {1, 1, 0, 1, 0, 0, 0};
        for (int i = 0; i < days.length; i++) {
            NeedleCharts x = new NeedleCharts();
            x.reading(0, 0, 0, 1000, 0, 0);
            x.reading(0, 0, 0, days[i], 900, 0);
            Due.is(due[i], x.rival(0, 1), "on DAY " + days[i]);
            Due.is(due[i], x.rival(1, 0), "on DAY " + days[i]);
            Due.is(due[i], x.peace(-1), "PEACE");
        }
    }

    private static void placesNotMoreThanOneApart() {
        Due.says("not two PLACES more than 1 apart (east and north each)");
        for (int east = -3; east <= 3; east++) {
            for (int north = -3; north <= 3; north++) {
                NeedleCharts x = new NeedleCharts();
                x.reading(0, 0, 18 * 10 + 8, 0, 0, 0);
                x.reading(0, 0, 18 * (10 + east) + 8 + north, 0, 900, 0);
                boolean near = east >= -1 && east <= 1 && north >= -1 && north <= 1;
                Due.is(near ? 1 : 0, x.rival(0, 1), east + " east, " + north + " north");
                Due.is(near ? 1 : 0, x.rival(1, 0), east + " east, " + north + " north");
            }
        }
        NeedleCharts x = new NeedleCharts();
        x.reading(0, 0, 17, 0, 0, 0);
        x.reading(0, 0, 18, 0, 900, 0);
        Due.is(0, x.rival(0, 1), "0, 17 and 1, 0 are numbers next to each other, not PLACES");
    }

    private static void valuesFartherApartThanSpans() {
        Due.says("whose VALUES are farther apart than their SPANS together");
        int[] values = {40, 41, -40, -41, 39, 0, 1799, -1800};
        int[] due = {0, 1, 0, 1, 0, 0, 1, 1};
        for (int i = 0; i < values.length; i++) {
            Due.is(due[i], values(0, values[i]).rival(0, 1), values[i] + " apart");
            Due.is(due[i], values(0, values[i]).rival(1, 0), values[i] + " apart");
        }
        NeedleCharts far = values(-1800, 1799);
        Due.is(1, far.rival(0, 1), "3599 tenths, not round the circle");
        Due.rule(far, "p:1800");
        Due.is(0, far.rival(0, 1), "1800 and 1800 are more than 3599");
        Due.rule(far, "p:v?1799:1800");
        Due.is(0, far.rival(0, 1), "1800 and 1799 are as many");
        Due.rule(far, "p:1799");
        Due.is(1, far.rival(0, 1), "1799 and 1799 are less");
    }

    private static void spansByKindAndByRules() {
        Due.says("their SPANS together");
        int[] spans = {20, 35, 30, 5, 45, 20};
        for (int a = 0; a <= 4; a++) {
            for (int b = 0; b <= 4; b++) {
                for (int more = 0; more <= 1; more++) {
                    NeedleCharts x = new NeedleCharts();
                    x.reading(a, 0, 0, 0, 0, 0);
                    x.reading(b, 0, 0, 0, spans[a] + spans[b] + more, 0);
                    Due.is(more, x.rival(0, 1), "kinds " + a + " and " + b);
                }
            }
        }
        NeedleCharts x = values(0, 3);
        Due.rule(x, "p:0");
        Due.is(1, x.rival(0, 1), "a SPAN is 1 at least: 3 is farther than 2");
        NeedleCharts y = values(0, 2);
        Due.rule(y, "p:0");
        Due.is(0, y.rival(0, 1), "2 is not");
    }

    private static void rivalsAreKnownByTheEdition() {
        Due.says("RIVALS by the EDITION");
        NeedleCharts x = values(0);
        x.edition(5);
        x.reading(0, 0, 0, 0, 41, 0);
        Due.is(1, x.rival(0, 1), "known now");
        Due.rule(x, "p:30");
        Due.is(0, x.rival(0, 1), "by the RULE of now");
        x.edition(60);
        x.strike(0);
        Due.is(1, x.rival(0, 1), "by none");
        x.iron(0, 0, 900);
        x.epoch(0);
        x.number(0, 0, 900);
        Due.is(1, x.rival(0, 1), "IRON and FIELD have no part in it");
    }

    private static void peaceHasItsEnds() {
        Due.says("32: how many leave (i -1); the i-th; -4: not so many. -1");
        NeedleCharts x = values(0, 41, 82);
        for (int none : new int[] {-2, -3, MIN}) {
            Due.is(-1, x.peace(none), "peace " + none);
            Due.is(-1, new NeedleCharts().peace(none), "peace " + none + " of nothing");
        }
        Due.is(2, x.peace(-1), "how many");
        Due.is(0, x.peace(0), "the first");
        Due.is(1, x.peace(1), "the second");
        for (int none : new int[] {2, 3, 11, 12, 80, MAX}) {
            Due.is(-4, x.peace(none), "peace " + none);
        }
    }

    private static void peaceWithoutRivals() {
        Due.says("32: without RIVALS");
        for (NeedleCharts x : new NeedleCharts[] {new NeedleCharts(), values(0), values(0, 40, 20)}) {
            Due.is(0, x.peace(-1), "none leave");
            Due.is(-4, x.peace(0), "no first one");
            Due.is(-4, x.peace(MAX), "none far on");
        }
    }

    /** How many leave, then who. */
    private static void leave(NeedleCharts x, int... who) {
        Due.is(who.length, x.peace(-1), "how many leave");
        for (int i = 0; i < who.length; i++) {
            Due.is(who[i], x.peace(i), "the " + i + "-th who leaves");
        }
        Due.is(-4, x.peace(who.length), "one more who leaves");
    }

    private static void theFewest() {
        Due.says("the fewest whose leaving leaves no two RIVALS");
        leave(values(0, 41), 0);
        leave(values(0, 41, 82), 0, 1);
        leave(values(0, 0, 41), 2);
        leave(values(0, 0, 0, 41, 41), 3, 4);
        leave(values(41, 0, 0, 0, 82), 0, 4);
        leave(values(0, 20, 41, 60), 0);
        leave(values(20, 0, 41, 60), 1);
        leave(values(0, 20, 41, 61), 0, 1);
        leave(values(20, 0, 41, 61), 0, 1);
    }

    private static void theLeastSetAsBits() {
        Due.says("of several the least set as bits");
        leave(values(0, 0, 41, 41), 0, 1);
        leave(values(0, 41, 0, 41), 0, 2);
        leave(values(0, 41, 41, 0), 1, 2);
        leave(values(0, 41, 82, 123), 0, 1, 2);
        NeedleCharts pairs = new NeedleCharts();
        for (int i = 0; i < 6; i++) {
            pairs.reading(0, 0, 100 * i, 0, 0, 0);
            pairs.reading(0, 0, 100 * i, 0, 900, 0);
        }
        leave(pairs, 0, 2, 4, 6, 8, 10);
    }

    private static void inThatOrder() {
        Due.says("the least set as bits (in that order): by their numbers");
        // 0 has no RIVAL: the bits are those of 1, 2, 3, 4
        NeedleCharts x = new NeedleCharts();
        x.reading(0, 0, 600, 0, 0, 0);
        x.reading(0, 0, 0, 0, 0, 0);
        x.reading(0, 0, 0, 0, 41, 0);
        x.reading(0, 0, 600, 0, 30, 0);
        x.reading(0, 0, 0, 0, 41, 0);
        leave(x, 1);
        // 10 - 11 - 12 - 13 in a row: 10 and 12, 11 and 12, 11 and 13 would do; as bits 5, 6 and 10
        NeedleCharts path = new NeedleCharts();
        for (int i = 0; i < 4; i++) {
            path.reading(0, 0, 18 * i, 0, i % 2 == 0 ? 0 : 60, 0);
        }
        leave(path, 0, 2);
    }

    private static void theFirstTwelve() {
        Due.says("of the first 12 READINGS (by numbers) that have a RIVAL");
        for (int many : new int[] {11, 12, 13, 20}) {
            NeedleCharts x = new NeedleCharts();
            for (int i = 0; i < many; i++) {
                x.reading(0, 0, 0, 0, 41 * i - 900, 0);
            }
            int leaving = Math.min(12, many) - 1;
            Due.is(leaving, x.peace(-1), "all but one of " + many);
            for (int i = 0; i < leaving; i++) {
                Due.is(i, x.peace(i), "the " + i + "-th of " + many);
            }
            Due.is(-4, x.peace(leaving), "none more of " + many);
        }
        NeedleCharts late = new NeedleCharts();
        for (int i = 0; i < 66; i++) {
            late.reading(0, 0, 0, 0, 0, 0);
        }
        for (int i = 0; i < 14; i++) {
            late.reading(0, 0, 600, 0, 41 * i, 0);
        }
        Due.is(11, late.peace(-1), "of those that have a RIVAL");
        Due.is(66, late.peace(0), "the first of them");
        Due.is(76, late.peace(10), "the last who leaves");
    }

    private static void rivalsAmongTheTwelveAlone() {
        Due.says("leaves no two RIVALS among the 12");
        NeedleCharts x = new NeedleCharts();
        for (int i = 0; i < 12; i++) {
            x.reading(0, 0, 40 * i, 0, 0, 0);
        }
        for (int i = 0; i < 12; i++) {
            x.reading(0, 0, 40 * i, 0, 900, 0);
        }
        leave(x);
        NeedleCharts y = new NeedleCharts();
        for (int i = 0; i < 11; i++) {
            y.reading(0, 0, 40 * i, 0, 0, 0);
        }
        for (int i = 10; i >= 0; i--) {
            y.reading(0, 0, 40 * i, 0, 900, 0);
        }
        leave(y, 10);
    }

    private static void peaceIsFoundAnew() {
        Due.says("32: as things stand");
        NeedleCharts x = values(0, 41, 82);
        leave(x, 0, 1);
        Due.rule(x, "p:21");
        leave(x, 0);
        Due.rule(x, "p:40");
        leave(x, 0);
        Due.rule(x, "p:41");
        leave(x);
        Due.rule(x, "p:v-20");
        leave(x, 0);
        Due.rule(x, "k:v-41");
        leave(x);
        Due.rule(x, "k:0");
        Due.rule(x, "p:1");
        leave(x, 0, 1);
    }

    private static void peaceIsByTheEdition() {
        Due.says("32: PEACE by the EDITION");
        NeedleCharts x = values(0, 41);
        x.edition(1);
        Due.rule(x, "k:1");
        leave(x);
        x.edition(2);
        x.strike(0);
        leave(x, 0);
    }

    private static void judgeRefuses() {
        Due.says("33: -1, -11, -12");
        NeedleCharts x = values(0, 41);
        x.keep(1, 1, 0);
        x.row(2, 1, 2);
        x.row(3, 2, 2);
        x.row(4, 0, 0);
        int[] shelves = {-1, 8, MIN, MAX, 0, 1, 2, 3, 4};
        int[] answers = {-1, -1, -1, -1, -11, -12, -12, -12, 1};
        for (int i = 0; i < shelves.length; i++) {
            Due.is(answers[i], x.judge(shelves[i]), "judge " + shelves[i]);
        }
    }

    private static void judgeFindsTheFirstTwo() {
        Due.says("33: the first two RIVALS both of whom stay (the least, then the other); -4: none");
        NeedleCharts x = values(0, 20, 41, 0, 80);
        int[][] leaving = {{}, {0}, {2}, {4}, {0, 1}, {0, 2}, {2, 4}, {0, 3, 1}, {0, 3, 4}, {4, 3, 2, 1, 0}, {1}, {3}};
        int[] due = {2, 80 + 4, 4, 2, 80 * 2 + 3, 80 + 4, -4, -4, -4, -4, 2, 2};
        for (int i = 0; i < leaving.length; i++) {
            Due.numbers(x, 0, 0, leaving[i]);
            Due.is(due[i], x.judge(0), "judge " + java.util.Arrays.toString(leaving[i]));
        }
        NeedleCharts none = new NeedleCharts();
        none.row(0, 0, 80);
        Due.is(-4, none.judge(0), "without READINGS");
    }

    private static void judgeOfAllReadings() {
        Due.says("33: of all READINGS");
        NeedleCharts x = new NeedleCharts();
        for (int i = 0; i < 78; i++) {
            x.reading(0, 0, 0, 0, i < 13 ? 41 * i : 0, 0);
        }
        x.reading(0, 0, 647, 0, 0, 0);
        x.reading(0, 0, 647, 0, 41, 0);
        x.row(0, 0, 80);
        for (int i = 0; i < 13; i++) {
            x.put(0, i, i);
        }
        Due.is(80 * 78 + 79, x.judge(0), "behind the first twelve");
        x.put(0, 79, 79);
        Due.is(-4, x.judge(0), "the last element tells the last READING");
        x.put(0, 79, 78);
        Due.is(-4, x.judge(0), "or the one ahead of it");
    }

    private static void numbersThatAreNoReading() {
        Due.says("33: numbers that are no READING mean nothing");
        NeedleCharts x = values(0, 41);
        Due.numbers(x, 0, 0, 2, 3, 79, 80, 81, 127, -1, -128, -80);
        Due.is(1, x.judge(0), "none of the two");
        Due.numbers(x, 0, 0, 2, 256);
        Due.is(-4, x.judge(0), "the lowest bits of 256 are 0");
        Due.numbers(x, 0, 0, -1, 1, 1, 1);
        Due.is(-4, x.judge(0), "one told thrice");
    }
}

/** Promises 22 to 26, 29, 30 and what the terms say of the FIELD and IRON: a test for each boundary. */
public final class BoundsOfFieldTest {
    private static final int MIN = Integer.MIN_VALUE;
    private static final int MAX = Integer.MAX_VALUE;

    public static void main(String[] args) {
        epochsAre0To3();
        epochsHaveDays();
        epochsRise();
        numbersAre0AtFirst();
        numbersHaveTheirEnds();
        numberTellsIfItWasAnother();
        toldIsOfEpochs();
        fieldIsOfPlacesAndDays();
        fieldWithoutEpochs();
        eachPartIsCutTowardZero();
        theLargestField();
        aheadOfTheFirstEpoch();
        onTheDayOfAnEpoch();
        behindTheLastEpoch();
        betweenTwoEpochs();
        betweenFarEpochs();
        misfitIsOfReadings();
        misfitOfShipsAlone();
        ironHasItsEnds();
        ironTellsIfItWasAnother();
        adjustIsOfSourcesAndHeadings();
        adjustedIs0WithoutAny();
        adjustedIsTheMeanCut();
        adjustedIsWithin1800();
        adjustedOfWhichShips();
        Due.end("BoundsOfFieldTest");
    }

    private static void epochsAre0To3() {
        Due.says("EPOCHS 0 .. 3; 22: its number; -2: there are 4");
        NeedleCharts x = new NeedleCharts();
        for (int i = 0; i <= 3; i++) {
            Due.is(-1, x.number(i, 0, 0), "no EPOCH " + i);
            Due.is(i, x.epoch(100 * i), "epoch " + i);
            Due.is(i + 1, x.count(3), "EPOCHS");
        }
        Due.is(-2, x.epoch(301), "one more");
        Due.is(-2, x.epoch(800000), "one more");
        Due.is(-1, x.epoch(300), "-1 is ahead of -2: no later DAY");
        Due.is(-1, x.epoch(0), "-1 is ahead of -2: an earlier DAY");
        Due.is(-1, x.epoch(-1), "-1 is ahead of -2: no DAY");
        Due.is(-1, x.epoch(800001), "-1 is ahead of -2: no DAY");
        Due.is(4, x.count(3), "a refused call changes nothing");
    }

    private static void epochsHaveDays() {
        Due.says("22: 0 .. 800000");
        for (int none : new int[] {-1, -2, 800001, MIN, MAX}) {
            NeedleCharts x = new NeedleCharts();
            Due.is(-1, x.epoch(none), "epoch of DAY " + none);
            Due.is(0, x.count(3), "a refused call changes nothing");
        }
        NeedleCharts x = new NeedleCharts();
        Due.is(0, x.epoch(0), "the first DAY");
        Due.is(1, x.epoch(800000), "the last DAY");
        Due.is(-1, x.epoch(800000), "none is above it");
        Due.is(-1, x.epoch(800001), "none is above it");
    }

    private static void epochsRise() {
        Due.says("22: a DAY above the last one's");
        NeedleCharts x = new NeedleCharts();
        Due.is(0, x.epoch(500), "500");
        for (int none : new int[] {500, 499, 0}) {
            Due.is(-1, x.epoch(none), "then " + none);
        }
        Due.is(1, x.epoch(501), "501");
        for (int none : new int[] {501, 500, 0}) {
            Due.is(-1, x.epoch(none), "then " + none);
        }
        Due.is(2, x.count(3), "a refused call changes nothing");
    }

    private static void numbersAre0AtFirst() {
        Due.says("4 NUMBERS c0 .. c3, 0 at first");
        NeedleCharts x = new NeedleCharts();
        for (int epoch = 0; epoch <= 3; epoch++) {
            x.epoch(epoch);
            for (int which = 0; which <= 3; which++) {
                Due.is(0, x.told(epoch, which), "told " + epoch + " " + which);
                Due.is(0, x.number(epoch, which, 0), "it was 0");
            }
        }
    }

    private static void numbersHaveTheirEnds() {
        Due.says("23: NUMBERS -9999 .. 9999; -1");
        NeedleCharts x = new NeedleCharts();
        x.epoch(5);
        x.epoch(6);
        for (int which = 0; which <= 3; which++) {
            for (int v : new int[] {-9999, 9999}) {
                Due.is(1, x.number(1, which, v), "number " + which + " " + v);
                Due.is(v, x.told(1, which), "told " + which);
            }
            for (int v : new int[] {-10000, 10000, MIN, MAX}) {
                Due.is(-1, x.number(1, which, v), "number " + which + " " + v);
                Due.is(9999, x.told(1, which), "a refused call changes nothing");
            }
        }
        for (int epoch : new int[] {-1, 2, 3, 4, MIN, MAX}) {
            Due.is(-1, x.number(epoch, 0, 1), "EPOCH " + epoch);
        }
        for (int which : new int[] {-1, 4, 8, MIN, MAX}) {
            Due.is(-1, x.number(0, which, 1), "NUMBER " + which);
            Due.is(-1, x.number(1, which, 1), "NUMBER " + which);
        }
        for (int which = 0; which <= 3; which++) {
            Due.is(0, x.told(0, which), "the other EPOCH's are as they were");
        }
    }

    private static void numberTellsIfItWasAnother() {
        Due.says("23: 1 if it was another, else 0");
        NeedleCharts x = new NeedleCharts();
        x.epoch(5);
        int[] values = {0, 1, 1, -1, -1, 0, 0, 9999, 9999, -9999, -9999};
        int[] due = {0, 1, 0, 1, 0, 1, 0, 1, 0, 1, 0};
        for (int i = 0; i < values.length; i++) {
            Due.is(due[i], x.number(0, 2, values[i]), "the " + i + "-th");
            Due.is(values[i], x.told(0, 2), "told");
        }
    }

    private static void toldIsOfEpochs() {
        Due.says("24: IllegalArgumentException: none such");
        NeedleCharts x = new NeedleCharts();
        Due.illegal(() -> x.told(0, 0), "told without EPOCHS");
        x.epoch(5);
        for (int none : new int[] {-1, 1, 3, 4, MIN, MAX}) {
            Due.illegal(() -> x.told(none, 0), "told of EPOCH " + none);
        }
        for (int none : new int[] {-1, 4, MIN, MAX}) {
            Due.illegal(() -> x.told(0, none), "told of NUMBER " + none);
        }
        Due.is(0, x.told(0, 3), "the last one");
    }

    private static void fieldIsOfPlacesAndDays() {
        Due.says("25: IllegalArgumentException: none such");
        int[][] none = {
            {-1, 0, 0}, {36, 0, 0}, {0, -1, 0}, {0, 18, 0}, {0, 0, -1}, {0, 0, -2}, {0, 0, 800001}, {MIN, 0, 0},
            {MAX, 0, 0}, {0, MIN, 0}, {0, MAX, 0}, {0, 0, MIN}, {0, 0, MAX}, {17, 35, 0},
        };
        NeedleCharts empty = new NeedleCharts();
        NeedleCharts x = new NeedleCharts();
        x.epoch(5);
        x.number(0, 0, 9);
        for (int[] n : none) {
            Due.illegal(() -> empty.field(n[0], n[1], n[2]), "field " + n[0] + " " + n[1] + " " + n[2]);
            Due.illegal(() -> x.field(n[0], n[1], n[2]), "field " + n[0] + " " + n[1] + " " + n[2]);
        }
        int[][] corners = {{0, 0}, {35, 0}, {0, 17}, {35, 17}};
        for (int[] c : corners) {
            Due.is(9, x.field(c[0], c[1], 0), "on the first DAY");
            Due.is(9, x.field(c[0], c[1], 800000), "on the last DAY");
        }
    }

    private static void fieldWithoutEpochs() {
        Due.says("25: without EPOCHS 0");
        NeedleCharts x = new NeedleCharts();
        Due.is(0, x.field(0, 0, 0), "field");
        Due.is(0, x.field(35, 17, 800000), "field");
        x.reading(0, 0, 0, 0, 77, 0);
        Due.is(77, x.misfit(0), "misfit");
        Due.is(77, x.turned(77, 0, 0, 1), "turned");
    }

    private static NeedleCharts numbers(int... c) {
        NeedleCharts x = new NeedleCharts();
        x.epoch(100);
        for (int which = 0; which < 4; which++) {
            x.number(0, which, c[which]);
        }
        return x;
    }

    private static void eachPartIsCutTowardZero() {
        Due.says("each cut toward 0");
        int[] cs = {1, -1, 9, -9, 10, -10, 11, -11, 99, -99, 100, -100};
        for (int c : cs) {
            Due.is(c, numbers(c, 0, 0, 0).field(7, 7, 100), "c0 " + c);
            Due.is(c / 10, numbers(0, c, 0, 0).field(1, 7, 100), "c1 " + c + " at x 1");
            Due.is(c * 35 / 10, numbers(0, c, 0, 0).field(35, 7, 100), "c1 " + c + " at x 35");
            Due.is(0, numbers(0, c, 0, 0).field(0, 17, 100), "c1 " + c + " at x 0");
            Due.is(c / 10, numbers(0, 0, c, 0).field(7, 1, 100), "c2 " + c + " at y 1");
            Due.is(c * 17 / 10, numbers(0, 0, c, 0).field(7, 17, 100), "c2 " + c + " at y 17");
            Due.is(0, numbers(0, 0, c, 0).field(35, 0, 100), "c2 " + c + " at y 0");
            Due.is(c / 100, numbers(0, 0, 0, c).field(1, 1, 100), "c3 " + c + " at 1, 1");
            Due.is(c * 595 / 100, numbers(0, 0, 0, c).field(35, 17, 100), "c3 " + c + " at 35, 17");
            Due.is(0, numbers(0, 0, 0, c).field(0, 17, 100), "c3 " + c + " at x 0");
            Due.is(0, numbers(0, 0, 0, c).field(35, 0, 100), "c3 " + c + " at y 0");
        }
        Due.is(0, numbers(0, 9, 9, 99).field(1, 1, 100), "each for itself, not together");
        Due.is(0, numbers(0, -9, -9, -99).field(1, 1, 100), "each for itself, not together");
        Due.is(1, numbers(1, -9, 9, 0).field(1, 1, 100), "0, not -1");
    }

    private static void theLargestField() {
        Due.says("NUMBERS -9999 .. 9999");
        Due.is(9999 + 34996 + 16998 + 59494, numbers(9999, 9999, 9999, 9999).field(35, 17, 100), "the most");
        Due.is(-9999 - 34996 - 16998 - 59494, numbers(-9999, -9999, -9999, -9999).field(35, 17, 100), "the least");
    }

    private static NeedleCharts days(int... days) {
        NeedleCharts x = new NeedleCharts();
        for (int i = 0; i < days.length; i++) {
            x.epoch(days[i]);
            x.number(i, 0, 100 * (i + 1));
        }
        return x;
    }

    private static void aheadOfTheFirstEpoch() {
        Due.says("at a DAY: ahead of the first EPOCH that EPOCH's");
        Due.is(100, days(1000, 2000).field(0, 0, 0), "far ahead");
        Due.is(100, days(1000, 2000).field(0, 0, 999), "a DAY ahead");
        Due.is(100, days(1000).field(0, 0, 999), "of one");
        Due.is(100, days(800000).field(0, 0, 0), "of the last DAY");
    }

    private static void onTheDayOfAnEpoch() {
        Due.says("on the DAY of an EPOCH that EPOCH's");
        NeedleCharts x = days(0, 7, 1000, 800000);
        Due.is(100, x.field(0, 0, 0), "the first");
        Due.is(200, x.field(0, 0, 7), "the second");
        Due.is(300, x.field(0, 0, 1000), "the third");
        Due.is(400, x.field(0, 0, 800000), "the last");
        Due.is(100, days(5).field(0, 0, 5), "the only one");
    }

    private static void behindTheLastEpoch() {
        Due.says("behind the last one that one's");
        Due.is(200, days(1000, 2000).field(0, 0, 2001), "a DAY behind");
        Due.is(200, days(1000, 2000).field(0, 0, 800000), "far behind");
        Due.is(100, days(1000).field(0, 0, 1001), "of one");
        Due.is(400, days(0, 1, 2, 3).field(0, 0, 4), "of four");
    }

    private static void betweenTwoEpochs() {
        Due.says("between two: VALUE by a, and the difference times DAYS by DAYS, cut");
        NeedleCharts x = days(1000, 1003);
        Due.is(133, x.field(0, 0, 1001), "33.3 more");
        Due.is(166, x.field(0, 0, 1002), "66.7 more");
        x.number(0, 0, 200);
        x.number(1, 0, 100);
        Due.is(167, x.field(0, 0, 1001), "33.3 less");
        Due.is(134, x.field(0, 0, 1002), "66.7 less");
        x.number(0, 0, 50);
        x.number(1, 0, -50);
        Due.is(17, x.field(0, 0, 1001), "33.3 less");
        Due.is(-16, x.field(0, 0, 1002), "66.7 less");
        NeedleCharts y = days(0, 10, 20, 30);
        int[] due = {105, 205, 305};
        for (int i = 0; i < 3; i++) {
            Due.is(due[i] + 45, y.field(0, 0, 10 * i + 5), "the half of the " + i + "-th");
            Due.is(due[i] + 5, y.field(0, 0, 10 * i + 1), "the tenth of the " + i + "-th");
        }
        NeedleCharts next = days(7, 8);
        Due.is(100, next.field(0, 0, 7), "no DAY between");
        Due.is(200, next.field(0, 0, 8), "no DAY between");
    }

    private static void betweenFarEpochs() {
        Due.says("between the largest and the least, 800000 DAYS apart");
        NeedleCharts x = new NeedleCharts();
        x.epoch(0);
        x.epoch(800000);
        for (int which = 0; which < 4; which++) {
            x.number(0, which, 9999);
            x.number(1, which, -9999);
        }
        long most = 9999 + 34996 + 16998 + 59494;
        for (int day : new int[] {0, 1, 799999, 800000, 400000, 123456}) {
            Due.is(most + -2 * most * day / 800000, x.field(35, 17, day), "on DAY " + day);
        }
    }

    private static void misfitIsOfReadings() {
        Due.says("26: IllegalArgumentException: none such");
        NeedleCharts x = days(1000, 2000);
        Due.illegal(() -> x.misfit(0), "misfit without READINGS");
        x.reading(0, 0, 0, 1500, 1799, 0);
        x.reading(5, 0, 0, 1500, -1800, 0);
        for (int none : new int[] {-1, 2, 79, 80, MIN, MAX}) {
            Due.illegal(() -> x.misfit(none), "misfit " + none);
        }
        Due.is(1799 - 150, x.misfit(0), "the most");
        Due.is(-1800 - 150, x.misfit(1), "the least, of a COPIED one");
    }

    private static void misfitOfShipsAlone() {
        Due.says("a SHIP's VALUE less IRON of its SOURCE and HEADING");
        for (int kind = 0; kind <= 5; kind++) {
            NeedleCharts x = days(0);
            x.reading(kind, 3, 0, 0, 150, 0);
            x.iron(3, 0, 20);
            Due.is(kind == 1 ? 30 : 50, x.misfit(0), "kind " + kind);
        }
        NeedleCharts x = new NeedleCharts();
        for (int source = 0; source <= 9; source += 9) {
            for (int heading = 0; heading <= 7; heading += 7) {
                int n = x.reading(1, source, 0, 0, 0, heading);
                x.iron(source, heading, 100 + 10 * source + heading);
                Due.is(-100 - 10 * source - heading, x.misfit(n), "SOURCE " + source + ", HEADING " + heading);
            }
        }
        Due.is(-100, x.misfit(0), "each has its own");
    }

    private static void ironHasItsEnds() {
        Due.says("29: IRON of a SOURCE and HEADING (-1800 .. 1800); -1");
        NeedleCharts x = new NeedleCharts();
        x.reading(1, 0, 0, 0, 0, 0);
        for (int v : new int[] {-1800, 1800}) {
            Due.is(1, x.iron(0, 0, v), "iron " + v);
            Due.is(-v, x.misfit(0), "it is so");
        }
        for (int v : new int[] {-1801, 1801, MIN, MAX}) {
            Due.is(-1, x.iron(0, 0, v), "iron " + v);
            Due.is(-1800, x.misfit(0), "a refused call changes nothing");
        }
        for (int source : new int[] {-1, 10, MIN, MAX}) {
            Due.is(-1, x.iron(source, 0, 0), "SOURCE " + source);
        }
        for (int heading : new int[] {-1, 8, MIN, MAX}) {
            Due.is(-1, x.iron(0, heading, 0), "HEADING " + heading);
            Due.is(-1, x.iron(9, heading, 0), "HEADING " + heading);
        }
        Due.is(1, x.iron(9, 7, 1), "the last of each");
    }

    private static void ironTellsIfItWasAnother() {
        Due.says("29: 1 if it was another, else 0; 0 at first");
        NeedleCharts x = new NeedleCharts();
        int[] values = {0, 5, 5, -5, -5, 0, 0};
        int[] due = {0, 1, 0, 1, 0, 1, 0};
        for (int i = 0; i < values.length; i++) {
            Due.is(due[i], x.iron(4, 4, values[i]), "the " + i + "-th");
        }
    }

    private static void adjustIsOfSourcesAndHeadings() {
        Due.says("30: IllegalArgumentException: none such");
        NeedleCharts x = new NeedleCharts();
        for (int source : new int[] {-1, 10, MIN, MAX}) {
            Due.illegal(() -> x.adjust(source, 0), "SOURCE " + source);
        }
        for (int heading : new int[] {-1, 8, MIN, MAX}) {
            Due.illegal(() -> x.adjust(0, heading), "HEADING " + heading);
        }
        x.reading(1, 9, 0, 0, 30, 7);
        x.reading(1, 0, 0, 0, 40, 0);
        Due.is(30, x.adjust(9, 7), "the last of each");
        Due.is(40, x.adjust(0, 0), "the first of each");
    }

    private static void adjustedIs0WithoutAny() {
        Due.says("ADJUSTED: 0 without any");
        NeedleCharts x = new NeedleCharts();
        x.iron(2, 2, 50);
        Due.is(0, x.adjust(2, 2), "without SHIPS");
        Due.is(0, x.iron(2, 2, 0), "IRON is it then");
        x.reading(1, 2, 0, 0, 30, 2);
        Due.rule(x, "k:1");
        x.iron(2, 2, 50);
        Due.is(0, x.adjust(2, 2), "without SHIPS with WEIGHT");
        Due.is(1, x.iron(2, 2, 50), "IRON is it then");
    }

    private static void adjustedIsTheMeanCut() {
        Due.says("ADJUSTED: the mean (cut)");
        int[][] values = {{1, 2}, {-1, -2}, {0, 1}, {0, -1}, {1, 1, 3}, {-1, -1, -3}, {5}, {-5}, {3, -4}};
        int[] due = {1, -1, 0, 0, 1, -1, 5, -5, 0};
        for (int i = 0; i < values.length; i++) {
            NeedleCharts x = new NeedleCharts();
            for (int v : values[i]) {
                x.reading(1, 2, 0, 0, v, 2);
            }
            Due.is(due[i], x.adjust(2, 2), "the " + i + "-th mean");
            Due.is(due[i], x.adjust(2, 2), "IRON has no part in it");
            Due.is(values[i][0] - due[i], x.misfit(0), "IRON is it then");
        }
        NeedleCharts x = days(0, 100);
        x.reading(1, 2, 0, 50, 100, 2);
        x.reading(1, 2, 0, 0, 103, 2);
        Due.is(-23, x.adjust(2, 2), "VALUE less the FIELD's at its DAY: -50 and 3");
        for (int i = 0; i < 78; i++) {
            x.reading(1, 2, 0, 0, 99, 2);
        }
        Due.is(-1, x.adjust(2, 2), "-125 by 80");
    }

    private static void adjustedIsWithin1800() {
        Due.says("ADJUSTED: -1800 at least, 1800 at most");
        int[] fields = {-1, 0, 1, 2, -9999, 9999};
        int[] most = {1800, 1799, 1798, 1797, 1800, -1800};
        int[] least = {-1799, -1800, -1800, -1800, 1800, -1800};
        for (int i = 0; i < fields.length; i++) {
            NeedleCharts x = numbers(fields[i], 0, 0, 0);
            x.reading(1, 0, 0, 0, 1799, 0);
            x.reading(1, 1, 0, 0, -1800, 0);
            Due.is(most[i], x.adjust(0, 0), "1799 by a FIELD of " + fields[i]);
            Due.is(least[i], x.adjust(1, 0), "-1800 by a FIELD of " + fields[i]);
            Due.is(0, x.iron(0, 0, most[i]), "IRON is it then");
        }
        NeedleCharts x = numbers(-2, 0, 0, 0);
        x.reading(1, 0, 0, 0, 1799, 0);
        Due.is(1800, x.adjust(0, 0), "1801 is 1800");
    }

    private static void adjustedOfWhichShips() {
        Due.says("of all SHIPS of that SOURCE and HEADING known by e with WEIGHT above 0 by e");
        NeedleCharts x = new NeedleCharts();
        for (int kind = 0; kind <= 5; kind++) {
            x.reading(kind, 0, 0, 0, 10 * kind + 10, 0);
        }
        Due.is(20, x.adjust(0, 0), "SHIPS alone");
        x.reading(1, 1, 0, 0, 600, 0);
        x.reading(1, 0, 0, 0, 700, 1);
        Due.is(20, x.adjust(0, 0), "of that SOURCE and HEADING alone");
        x.edition(1);
        x.reading(1, 0, 0, 0, 40, 0);
        Due.is(30, x.adjust(0, 0), "known now");
        Due.rule(x, "g:v-20");
        Due.is(40, x.adjust(0, 0), "WEIGHT 0 is not above 0");
        Due.rule(x, "g:v-19");
        Due.is(30, x.adjust(0, 0), "WEIGHT 1 is, and counts as much as any");
    }
}

/** What the terms say of RULES at work and of NIGHTS, promises 14 and 15: a test for each sentence with a boundary. */
public final class BoundsOfWeighingTest {
    private static final int MIN = Integer.MIN_VALUE;
    private static final int MAX = Integer.MAX_VALUE;

    public static void main(String[] args) {
        theFirstIfTheSumIsAbove0();
        sumsAndProductsAreFromTheLeft();
        quotientsAreCut();
        byZeroItIsZero();
        allInThirtyTwoBits();
        kindSourceAndHeadingFields();
        daysBy365();
        placesAndValues();
        weightAndSpanFieldsAreByKind();
        nightFields();
        weightsAre0To100();
        weightIs0IfStruck();
        spansAre1To1800();
        nightIsOfReadings();
        aNightNeedsMany();
        aNightNeedsUnlikePlaces();
        moreThanBound();
        meansAreCut();
        shakenOnesToo();
        allReadingsThatCame();
        nightsChangeWithWhatIsSet();
        nightsAreFoundByEachCall();
        Due.end("BoundsOfWeighingTest");
    }

    /** The SPAN that a text makes of a READING. */
    private static int span(String expr, int... reading) {
        NeedleCharts x = new NeedleCharts();
        int n = x.reading(reading[0], reading[1], reading[2], reading[3], reading[4], reading[5]);
        Due.is(0, n, "the reading for " + expr);
        Due.rule(x, "p:" + expr);
        return x.counts(0, 1, 0);
    }

    private static int span(String expr) {
        return span(expr, 0, 0, 0, 0, 0, 0);
    }

    private static void theFirstIfTheSumIsAbove0() {
        Due.says("the first, if SUM is above 0, else the second");
        Due.is(5, span("1?5:6"), "1");
        Due.is(6, span("0?5:6"), "0");
        Due.is(6, span("0-1?5:6"), "-1");
        Due.is(5, span("9999?5:6"), "9999");
        Due.is(6, span("1-1?5:6"), "1 - 1");
        Due.is(6, span("1/2?5:6"), "1 / 2, cut");
        Due.is(7, span("0?5:0?6:7"), "else a choice");
        Due.is(6, span("0?5:1?6:7"), "else a choice");
        Due.is(5, span("1?1?5:6:7"), "a choice first");
        Due.is(6, span("1?0?5:6:7"), "a choice first");
        Due.is(7, span("0?0?5:6:7"), "not the choice");
    }

    private static void sumsAndProductsAreFromTheLeft() {
        Due.says("from the left");
        Due.is(4, span("9-3-2"), "9 - 3 - 2");
        Due.is(8, span("9-3+2"), "9 - 3 + 2");
        Due.is(2, span("24/4/3"), "24 / 4 / 3");
        Due.is(18, span("24/4*3"), "24 / 4 * 3");
        Due.is(15, span("7/2*5"), "7 / 2 * 5, cut between");
        Due.is(17, span("5*7/2"), "5 * 7 / 2, cut behind");
        Due.is(7, span("9-4/2"), "products ahead of sums");
        Due.is(13, span("2*4+5"), "products ahead of sums");
        Due.is(14, span("2+3*4"), "products ahead of sums");
        Due.is(20, span("(2+3)*4"), "brackets ahead of both");
        Due.is(8, span("9-(3-2)"), "brackets ahead of both");
    }

    private static void quotientsAreCut() {
        Due.says("/ cut toward 0");
        Due.is(103, span("100+7/2"), "7 / 2");
        Due.is(97, span("100+(0-7)/2"), "-7 / 2");
        Due.is(97, span("100+7/(0-2)"), "7 / -2");
        Due.is(103, span("100+(0-7)/(0-2)"), "-7 / -2");
        Due.is(100, span("100+(0-1)/2"), "-1 / 2");
        Due.is(100, span("100+1/9999"), "1 / 9999");
    }

    private static void byZeroItIsZero() {
        Due.says("by 0 it is 0");
        Due.is(100, span("100+7/0"), "7 / 0");
        Due.is(100, span("100+(0-7)/0"), "-7 / 0");
        Due.is(100, span("100+0/0"), "0 / 0");
        Due.is(100, span("100+7/(1-1)*5"), "7 / 0 * 5");
        Due.is(100, span("100+7/0/3"), "7 / 0 / 3");
        Due.is(100, span("100+7/(3/0)"), "7 / (3 / 0)");
        Due.is(5, span("1?5:6/0"), "on the way that is not taken");
        Due.is(100, span("100+x/y"), "of FIELDS");
    }

    private static void allInThirtyTwoBits() {
        Due.says("all in 32 bits, as machines do");
        String least = "4096*4096*128";
        Due.is(6, span(least + "?5:6"), "2 to the 31st is below 0");
        Due.is(5, span(least + "-1?5:6"), "one less than the least is the most");
        Due.is(6, span(least + "-1+1?5:6"), "one more than the most is the least");
        Due.is(6, span("0-" + least + "?5:6"), "the least is its own opposite");
        Due.is(6, span("(0-1)*(" + least + ")?5:6"), "times -1, too");
        Due.is(6, span(least + "/(0-1)?5:6"), "by -1, too");
        Due.is(100, span("100+" + least + "*2"), "2 to the 32nd is 0");
        Due.is(100, span("100+" + least + "+" + least), "and so is the sum");
        Due.is(107, span("100+(" + least + "*2+7)"), "and what goes on from it");
        Due.is(1, span(least), "below 0 is 1 as a SPAN");
        Due.is(1800, span(least + "-1"), "the most is 1800 as a SPAN");
        NeedleCharts x = new NeedleCharts();
        x.reading(0, 0, 0, 0, 0, 0);
        Due.rule(x, "k:" + least + "*2");
        Due.is(8, x.counts(0, 0, 0), "0 strikes not");
        Due.rule(x, "k:" + least);
        Due.is(0, x.counts(0, 0, 0), "the least strikes");
        Due.rule(x, "k:0");
        Due.rule(x, "g:" + least);
        Due.is(0, x.counts(0, 0, 0), "below 0 is 0 as a WEIGHT");
        Due.rule(x, "g:" + least + "-1");
        Due.is(100, x.counts(0, 0, 0), "the most is 100 as a WEIGHT");
    }

    private static void kindSourceAndHeadingFields() {
        Due.says("FIELD: k KIND, s SOURCE, h HEADING (else 0)");
        for (int kind = 0; kind <= 5; kind++) {
            Due.is(50 + kind, span("k+50", kind, 9, 0, 0, 0, 0), "k of kind " + kind);
            Due.is(50, span("h+50", kind, 9, 0, 0, 0, 0), "h of kind " + kind);
            Due.is(59, span("s+50", kind, 9, 0, 0, 0, 0), "s of kind " + kind);
        }
        Due.is(57, span("h+50", 1, 9, 0, 0, 0, 7), "h 7");
        Due.is(50, span("s+50", 1, 0, 0, 0, 0, 7), "s 0");
    }

    private static void daysBy365() {
        Due.says("FIELD: d DAY by 365, cut");
        int[] days = {0, 364, 365, 729, 730, 800000};
        int[] due = {0, 0, 1, 1, 2, 2191};
        for (int i = 0; i < days.length; i++) {
            Due.is(Math.min(1800, 5 + due[i]), span("d+5", 0, 0, 0, days[i], 0, 0), "d of DAY " + days[i]);
        }
        Due.is(191, span("d-2000", 0, 0, 0, 800000, 0, 0), "d of the last DAY");
    }

    private static void placesAndValues() {
        Due.says("FIELD: x, y its PLACE, v VALUE");
        Due.is(100, span("x+100", 0, 0, 17, 0, 0, 0), "x of 0, 17");
        Due.is(117, span("y+100", 0, 0, 17, 0, 0, 0), "y of 0, 17");
        Due.is(101, span("x+100", 0, 0, 18, 0, 0, 0), "x of 1, 0");
        Due.is(100, span("y+100", 0, 0, 18, 0, 0, 0), "y of 1, 0");
        Due.is(135, span("x+100", 0, 0, 647, 0, 0, 0), "x of 35, 17");
        Due.is(117, span("y+100", 0, 0, 647, 0, 0, 0), "y of 35, 17");
        Due.is(1799, span("v", 0, 0, 0, 0, 1799, 0), "the most");
        Due.is(1, span("v+1801", 0, 0, 0, 0, -1800, 0), "the least");
        NeedleCharts x = new NeedleCharts();
        x.reading(1, 0, 0, 0, 40, 0);
        x.iron(0, 0, 30);
        x.epoch(0);
        x.number(0, 0, 20);
        Due.rule(x, "p:v");
        Due.is(40, x.counts(0, 1, 0), "IRON and FIELD have no part in v");
    }

    private static void weightAndSpanFieldsAreByKind() {
        Due.says("FIELD: w WEIGHT, q SPAN (both by kind)");
        int[] weights = {8, 4, 6, 16, 4, 0};
        int[] spans = {20, 35, 30, 5, 45, 20};
        for (int kind = 0; kind <= 5; kind++) {
            NeedleCharts x = new NeedleCharts();
            x.reading(kind, 0, 0, 0, 0, 0);
            Due.rule(x, "g:q");
            Due.rule(x, "p:w+100");
            Due.is(spans[kind], x.counts(0, 0, 0), "q of kind " + kind);
            Due.is(100 + weights[kind], x.counts(0, 1, 0), "w of kind " + kind);
            Due.rule(x, "k:w");
            Due.is(kind == 5 ? 20 : 0, x.counts(0, 0, 0), "w of COPIED ones alone is 0");
            Due.rule(x, "k:0");
            Due.rule(x, "g:w+w");
            Due.rule(x, "p:q+q");
            Due.is(2 * weights[kind], x.counts(0, 0, 0), "w is not what a RULE makes of it");
            Due.is(2 * spans[kind], x.counts(0, 1, 0), "q is not what a RULE makes of it");
        }
    }

    private static void nightFields() {
        Due.says("FIELD: n 1 if its DAY is a NIGHT, else 0");
        NeedleCharts x = night(2);
        x.reading(5, 0, 600, 1000, 0, 0);
        x.reading(0, 0, 600, 999, 0, 0);
        Due.rule(x, "p:n*7+1");
        Due.is(8, x.counts(0, 1, 0), "n of a STATION of that DAY");
        Due.is(1, x.counts(1, 1, 0), "n of a STATION of another DAY");
        Due.is(8, x.counts(4, 1, 0), "n of a COPIED one of that DAY");
        Due.is(1, x.counts(5, 1, 0), "n of a READING of the DAY ahead");
    }

    private static void weightsAre0To100() {
        Due.says("WEIGHT: by g, 0 at least, 100 at most");
        String[] texts = {"0", "1", "99", "100", "101", "9999", "0-1", "0-9999", "1-1"};
        int[] weights = {0, 1, 99, 100, 100, 100, 0, 0, 0};
        for (int i = 0; i < texts.length; i++) {
            NeedleCharts x = new NeedleCharts();
            x.reading(0, 0, 0, 0, 0, 0);
            Due.rule(x, "g:" + texts[i]);
            Due.is(weights[i], x.counts(0, 0, 0), "WEIGHT by " + texts[i]);
            Due.is(weights[i] == 0 ? 1 : 0, x.count(8), "READINGS with WEIGHT 0 by " + texts[i]);
            Due.is(20, x.counts(0, 1, 0), "SPAN is not by g");
        }
    }

    private static void weightIs0IfStruck() {
        Due.says("STRIKES: what is not 0 isn't used; WEIGHT is 0 if k isn't 0");
        String[] texts = {"0", "1", "2", "0-1", "9999", "1-1", "0-9999"};
        int[] weights = {55, 0, 0, 0, 0, 55, 0};
        for (int i = 0; i < texts.length; i++) {
            NeedleCharts x = new NeedleCharts();
            x.reading(0, 0, 0, 0, 0, 0);
            Due.rule(x, "g:55");
            Due.rule(x, "p:66");
            Due.rule(x, "k:" + texts[i]);
            Due.is(weights[i], x.counts(0, 0, 0), "WEIGHT with k " + texts[i]);
            Due.is(66, x.counts(0, 1, 0), "SPAN stays with k " + texts[i]);
        }
        NeedleCharts x = new NeedleCharts();
        x.reading(0, 0, 0, 0, 0, 0);
        Due.rule(x, "k:1");
        Due.is(0, x.counts(0, 0, 0), "WEIGHT by kind is 0, too");
    }

    private static void spansAre1To1800() {
        Due.says("SPAN: by p, 1 at least, 1800 at most");
        String[] texts = {"1", "2", "1799", "1800", "1801", "9999", "0", "0-1", "0-9999"};
        int[] spans = {1, 2, 1799, 1800, 1800, 1800, 1, 1, 1};
        for (int i = 0; i < texts.length; i++) {
            Due.is(spans[i], span(texts[i]), "SPAN by " + texts[i]);
        }
    }

    private static void nightIsOfReadings() {
        Due.says("15: 1, 0; -1");
        NeedleCharts x = new NeedleCharts();
        Due.is(-1, x.night(0), "night 0 without READINGS");
        x.reading(0, 0, 0, 0, 0, 0);
        Due.is(0, x.night(0), "night 0");
        for (int reading : new int[] {-1, 1, 79, 80, MIN, MAX}) {
            Due.is(-1, x.night(reading), "night " + reading);
        }
    }

    /** So many PLACES have a STATION's READING of 100 on DAY 1000 and one of 0 on a DAY of its own: 50 off the mean. */
    private static NeedleCharts night(int places) {
        NeedleCharts x = new NeedleCharts();
        for (int i = 0; i < places; i++) {
            x.reading(3, 0, 70 * i, 1000, 100, 0);
            x.reading(3, 0, 70 * i, 2000 + i, 0, 0);
        }
        return x;
    }

    private static void aNightNeedsMany() {
        Due.says("at least as many (MANY, 1 .. 9; 2 at first) STATIONS");
        Due.is(0, night(1).night(0), "one of two at first");
        Due.is(1, night(2).night(0), "two of two at first");
        for (int places = 1; places <= 9; places++) {
            NeedleCharts x = night(places);
            for (int many = 1; many <= 9; many++) {
                x.set(0, many);
                Due.is(places >= many ? 1 : 0, x.night(0), places + " of " + many);
                Due.is(many == 1 ? 1 : 0, x.night(1), "a DAY of one of " + many);
            }
        }
        NeedleCharts x = night(9);
        Due.is(1, x.night(16), "the last STATION of that DAY");
        Due.is(0, x.night(17), "not one of another");
    }

    private static void aNightNeedsUnlikePlaces() {
        Due.says("STATIONS at unlike PLACES");
        NeedleCharts x = new NeedleCharts();
        x.reading(3, 0, 5, 1000, 100, 0);
        x.reading(3, 1, 5, 1000, -100, 0);
        x.reading(4, 2, 5, 1000, 200, 0);
        x.reading(3, 3, 5, 1000, -200, 0);
        Due.is(0, x.night(0), "four at one PLACE");
        x.set(0, 1);
        Due.is(1, x.night(0), "one PLACE is enough for 1");
        x.set(0, 2);
        x.reading(3, 0, 6, 1000, 100, 0);
        Due.is(0, x.night(0), "the only one of another PLACE is its mean");
        x.reading(3, 0, 6, 2000, 0, 0);
        Due.is(1, x.night(0), "two PLACES");
        x.set(0, 3);
        Due.is(0, x.night(0), "not three");
    }

    private static void moreThanBound() {
        Due.says("differ by more than BOUND (0 .. 999; 30 at first)");
        for (int apart : new int[] {60, 62}) {
            NeedleCharts x = new NeedleCharts();
            x.set(0, 1);
            x.reading(3, 0, 5, 1000, apart / 2, 0);
            x.reading(3, 0, 5, 2000, -apart / 2, 0);
            Due.is(apart > 60 ? 1 : 0, x.night(0), apart / 2 + " above the mean at first");
            Due.is(apart > 60 ? 1 : 0, x.night(1), apart / 2 + " below the mean at first");
        }
        NeedleCharts x = new NeedleCharts();
        x.set(0, 1);
        x.reading(3, 0, 5, 1000, 1000, 0);
        x.reading(3, 0, 5, 2000, -1000, 0);
        x.reading(3, 0, 6, 3000, 7, 0);
        x.reading(3, 0, 7, 4000, 999, 0);
        x.reading(3, 0, 7, 5000, -999, 0);
        x.set(1, 999);
        Due.is(1, x.night(0), "1000 is more than 999");
        Due.is(0, x.night(3), "999 is not more than 999");
        x.set(1, 998);
        Due.is(1, x.night(4), "999 is more than 998");
        x.set(1, 0);
        Due.is(0, x.night(2), "0 is not more than 0");
    }

    private static void meansAreCut() {
        Due.says("from the mean (cut)");
        NeedleCharts x = new NeedleCharts();
        x.set(0, 1);
        // 61 by 2 is 30: 30 and 31 off
        x.reading(3, 0, 5, 1000, 0, 0);
        x.reading(3, 0, 5, 2000, 61, 0);
        Due.is(0, x.night(0), "0 is 30 off");
        Due.is(1, x.night(1), "61 is 31 off");
        // -61 by 2 is -30: 30 and 31 off
        x.reading(3, 0, 6, 3000, 0, 0);
        x.reading(3, 0, 6, 4000, -61, 0);
        Due.is(0, x.night(2), "0 is 30 off");
        Due.is(1, x.night(3), "-61 is 31 off");
        // 92 by 3 is 30, 93 by 3 is 31
        x.reading(3, 0, 7, 5000, 0, 0);
        x.reading(3, 0, 7, 6000, 46, 0);
        x.reading(3, 0, 7, 7000, 46, 0);
        Due.is(0, x.night(4), "0 is 30 off");
        x.reading(3, 0, 8, 5500, 0, 0);
        x.reading(3, 0, 8, 6500, 46, 0);
        x.reading(3, 0, 8, 7500, 47, 0);
        Due.is(1, x.night(7), "0 is 31 off");
    }

    private static void shakenOnesToo() {
        Due.says("STATIONS (SHAKEN ones, too)");
        for (int kind = 0; kind <= 5; kind++) {
            NeedleCharts x = new NeedleCharts();
            x.set(0, 1);
            x.reading(3, 0, 5, 1000, 0, 0);
            x.reading(kind, 0, 5, 2000, 100, 0);
            boolean station = kind == 3 || kind == 4;
            Due.is(station ? 1 : 0, x.night(1), "it differs: kind " + kind);
            Due.is(station ? 1 : 0, x.night(0), "it moves the mean: kind " + kind);
        }
    }

    private static void allReadingsThatCame() {
        Due.says("all READINGS that came");
        NeedleCharts x = new NeedleCharts();
        x.reading(3, 0, 5, 1000, 100, 0);
        x.reading(3, 0, 6, 1000, 100, 0);
        Due.rule(x, "p:n+5");
        x.edition(7);
        Due.is(5, x.counts(0, 1, 0), "not a NIGHT yet");
        x.reading(3, 0, 5, 2000, 0, 0);
        x.reading(3, 0, 6, 3000, 0, 0);
        Due.is(6, x.counts(0, 1, 0), "a NIGHT by what came later, by the early EDITION, too");
        Due.rule(x, "k:1");
        Due.is(1, x.night(0), "struck READINGS, too");
        Due.is(1, x.night(1), "struck READINGS, too");
    }

    private static void nightsChangeWithWhatIsSet() {
        Due.says("16: MANY, BOUND as they are now");
        NeedleCharts x = new NeedleCharts();
        // the mean is 33: 67 and 33 off
        x.reading(3, 0, 5, 1000, 100, 0);
        x.reading(3, 0, 5, 2000, 0, 0);
        x.reading(3, 0, 5, 3000, 0, 0);
        Due.is(0, x.night(0), "MANY is 2");
        x.set(0, 1);
        for (int bound = 0; bound <= 80; bound++) {
            x.set(1, bound);
            Due.is(bound < 67 ? 1 : 0, x.night(0), "67 off by a BOUND of " + bound);
            Due.is(bound < 33 ? 1 : 0, x.night(1), "33 off by a BOUND of " + bound);
        }
        NeedleCharts second = new NeedleCharts();
        second.set(0, 1);
        second.set(1, 50);
        second.reading(3, 0, 5, 2000, 0, 0);
        second.reading(3, 0, 5, 1000, 100, 0);
        second.reading(3, 0, 5, 3000, 0, 0);
        Due.is(0, second.night(0), "the first is 33 off");
        Due.is(1, second.night(1), "the second alone is 67 off");
        Due.is(0, second.night(2), "the third is 33 off");
    }

    /** Each call that weighs finds the NIGHTS by itself: nothing asked for them ahead of it. */
    private static void nightsAreFoundByEachCall() {
        Due.says("FIELD: n, by whichever call");
        Due.is(2, struckNights().count(8), "count");
        Due.is(0, struckNights().cost(0), "cost");
        Due.is(0, struckNights().rival(0, 4), "rival");
        Due.is(0, struckNights().peace(-1), "peace");
        NeedleCharts x = struckNights();
        x.row(0, 0, 0);
        Due.is(-4, x.judge(0), "judge");
        x = struckNights();
        x.epoch(0);
        Due.is(101, x.solve(60), "solve");
        x = night(2);
        Due.rule(x, "k:n");
        x.reading(1, 3, 0, 1000, 50, 2);
        Due.is(0, x.adjust(3, 2), "adjust");
        Due.is(0, struckNights().counts(0, 0, 0), "counts");
        Due.is(16, struckNights().counts(1, 0, 0), "counts");
    }

    /** 0 and 2 would cost, and 0 would be a RIVAL of 4, but for the NIGHT. */
    private static NeedleCharts struckNights() {
        NeedleCharts x = night(2);
        x.reading(0, 0, 0, 1300, 0, 0);
        Due.rule(x, "k:n");
        return x;
    }
}

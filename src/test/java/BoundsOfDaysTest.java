import java.time.LocalDate;

/** Promises 1 to 5 and what the terms say of days and places: a test for each sentence that names a boundary. */
public final class BoundsOfDaysTest {
    private static final int MIN = Integer.MIN_VALUE;
    private static final int MAX = Integer.MAX_VALUE;
    private static final int[] LENGTHS = {31, 28, 31, 30, 31, 30, 31, 31, 30, 31, 30, 31};
    private static NeedleCharts charts = new NeedleCharts();
    private static int calls = 0;

    public static void main(String[] args) {
        aNewObjectHasNothing();
        aNewObjectIsAllSea();
        dayZeroIsNewYearsDayOfYearOne();
        oldYearOneBeginsOnDayMinusTwo();
        oldYearsThatFourDividesAreLong();
        newHundredsAreLongIfFourHundredDivides();
        yearsAreOneTo2400();
        monthsAreOneToTwelve();
        aDateIsOneIfTheMonthHasThatDay();
        everyDateOfAllYears();
        dateIsOfDays0To800000();
        dateTellsYearMonthDay();
        dateTellsTheEndsOfMonths();
        stylesAre0To3();
        placesOfDaysAreFromMinusOneOn();
        marchYearsBeginOnMarch25();
        marchYearsEndWithTheYears();
        strangeStylesTellEachDayOnce();
        strangeStylesRise();
        noneSuchAndHowMany();
        landIsOfPlaces();
        landTellsHowManyChanged();
        landRefusedChangesNothing();
        Due.end("BoundsOfDaysTest");
    }

    /** An object is used for 512 calls at most. */
    private static NeedleCharts x() {
        calls++;
        if (calls % 512 == 0) {
            charts = new NeedleCharts();
        }
        return charts;
    }

    private static void aNewObjectHasNothing() {
        Due.says("1: no READINGS, VOYAGES, EPOCHS");
        NeedleCharts x = new NeedleCharts();
        for (int what = 0; what <= 8; what++) {
            Due.is(0, x.count(what), "count " + what);
        }
        Due.is(-1, x.about(0, 0), "about 0");
        Due.is(-1, x.strike(0), "strike 0");
        Due.is(-1, x.leg(0, 0, 0), "leg 0");
        Due.is(-1, x.shift(0), "shift 0");
        Due.is(-1, x.number(0, 0, 0), "number 0");
        Due.is(-3, x.solve(1), "solve");
        Due.is(-3, x.chart(0), "chart");
        Due.is(-3, x.restore(), "restore");
        Due.illegal(() -> x.value(0), "value 0");
        Due.illegal(() -> x.told(0, 0), "told 0");
        Due.illegal(() -> x.misfit(0), "misfit 0");
        Due.illegal(() -> x.off(0, 0, 0, true), "off 0");
        for (int d = 0; d < 8; d++) {
            Due.is(-11, x.heft(d), "shelf " + d);
        }
        for (int purpose = 0; purpose < 3; purpose++) {
            Due.is(-4, x.force(purpose, 0), "force " + purpose);
        }
        for (int source = 0; source < 10; source++) {
            for (int heading = 0; heading < 8; heading++) {
                Due.is(0, x.iron(source, heading, 0), "iron is 0 at first");
            }
        }
        Due.is(0, x.edition(0), "the EDITION is 0 at first");
        Due.is(2, x.set(0, 5), "MANY is 2 at first");
        Due.is(30, x.set(1, 5), "BOUND is 30 at first");
        Due.is(0, x.set(2, 5), "SMOOTH is 0 at first");
    }

    private static void aNewObjectIsAllSea() {
        Due.says("1: all SEA");
        NeedleCharts x = new NeedleCharts();
        for (int y = 0; y < 18; y++) {
            Due.is(0, x.land(0, 35, y, false), "row " + y + " is SEA");
            Due.is(36, x.land(0, 35, y, true), "row " + y + " becomes LAND");
        }
        Due.is(648, x.count(7), "all PLACES");
    }

    private static void dayZeroIsNewYearsDayOfYearOne() {
        Due.says("DAY 0 is January 1 of the year 1 of the NEW calendar");
        Due.is(0, x().day(1, 1, 1, false), "day 1 1 1");
        Due.is(1, x().day(1, 1, 2, false), "day 1 1 2");
        Due.is(1, x().date(0, false, 0), "year of DAY 0");
        Due.is(1, x().date(0, false, 1), "month of DAY 0");
        Due.is(1, x().date(0, false, 2), "day of DAY 0");
    }

    private static void oldYearOneBeginsOnDayMinusTwo() {
        Due.says("January 1 of year 1 OLD is DAY -2; DAYS may be -2, -1");
        Due.is(-2, x().day(1, 1, 1, true), "day 1 1 1");
        Due.is(-1, x().day(1, 1, 2, true), "day 1 1 2");
        Due.is(0, x().day(1, 1, 3, true), "day 1 1 3");
        Due.is(-2, x().mayBe(0, 1, 1, 1, 0), "mayBe by OLD");
        Due.is(-1, x().mayBe(3, 1, 1, 2, 0), "mayBe by any");
        Due.is(3, x().date(0, true, 2), "day of DAY 0");
    }

    private static int lengthOf(int year, boolean old) {
        return x().day(year, 12, 31, old) - x().day(year, 1, 1, old) + 1;
    }

    private static void oldYearsThatFourDividesAreLong() {
        Due.says("each OLD year that 4 divides is long");
        int[] longOnes = {4, 8, 100, 200, 300, 400, 1600, 1700, 1800, 1900, 2000, 2100, 2300, 2396, 2400};
        int[] shortOnes = {1, 2, 3, 5, 99, 101, 102, 1699, 1701, 1702, 1703, 2397, 2398, 2399};
        for (int year : longOnes) {
            Due.is(366, lengthOf(year, true), "length of " + year);
            Due.is(x().day(year, 2, 28, true) + 1, x().day(year, 2, 29, true), "February 29 of " + year);
        }
        for (int year : shortOnes) {
            Due.is(365, lengthOf(year, true), "length of " + year);
            Due.is(-5, x().day(year, 2, 29, true), "February 29 of " + year);
        }
    }

    private static void newHundredsAreLongIfFourHundredDivides() {
        Due.says("NEW: such years are long, but of hundreds those alone that 400 divides");
        int[] longOnes = {4, 8, 96, 104, 400, 800, 1200, 1600, 2000, 2400, 396, 404, 2396};
        int[] shortOnes = {1, 2, 3, 5, 100, 200, 300, 500, 1000, 1700, 1800, 1900, 2100, 2200, 2300, 2399, 50, 150};
        for (int year : longOnes) {
            Due.is(366, lengthOf(year, false), "length of " + year);
            Due.is(x().day(year, 2, 28, false) + 1, x().day(year, 2, 29, false), "February 29 of " + year);
        }
        for (int year : shortOnes) {
            Due.is(365, lengthOf(year, false), "length of " + year);
            Due.is(-5, x().day(year, 2, 29, false), "February 29 of " + year);
        }
    }

    private static void yearsAreOneTo2400() {
        Due.says("years are 1 .. 2400 (of both; others have no DATES)");
        Due.is(876581, x().day(2400, 12, 31, false), "the last NEW day");
        Due.is(876597, x().day(2400, 12, 31, true), "the last OLD day");
        int[] none = {0, -1, -3, -4, -400, 2401, 2404, 2800, MIN, MIN + 1, MAX};
        for (int year : none) {
            for (int m = 1; m <= 12; m++) {
                Due.is(-5, x().day(year, m, 1, true), "OLD year " + year + ", month " + m);
                Due.is(-5, x().day(year, m, 1, false), "NEW year " + year + ", month " + m);
            }
            Due.is(-5, x().day(year, 2, 29, true), "February 29 of " + year);
        }
    }

    private static void monthsAreOneToTwelve() {
        Due.says("month 1 .. 12");
        int[] none = {0, 13, 14, -1, -12, MIN, MAX};
        for (int m : none) {
            for (int d = 0; d <= 1; d++) {
                Due.is(-5, x().day(1700, m, d, true), "OLD month " + m);
                Due.is(-5, x().day(1700, m, d, false), "NEW month " + m);
            }
        }
        Due.is(0, x().day(1700, 1, 1, false) - x().day(1699, 12, 31, false) - 1, "months 12 and 1");
    }

    private static void aDateIsOneIfTheMonthHasThatDay() {
        Due.says("a DATE is one if the month has that day");
        for (int m = 1; m <= 12; m++) {
            int[] none = {0, -1, LENGTHS[m - 1] + 1, 32, 33, MIN, MAX};
            for (int d : none) {
                Due.is(-5, x().day(1701, m, d, true), "OLD 1701 " + m + " " + d);
                Due.is(-5, x().day(1701, m, d, false), "NEW 1701 " + m + " " + d);
            }
            Due.isTrue(x().day(1701, m, LENGTHS[m - 1], true) > 0, "OLD: the last day of month " + m);
            Due.isTrue(x().day(1701, m, LENGTHS[m - 1], false) > 0, "NEW: the last day of month " + m);
        }
        Due.is(-5, x().day(1704, 2, 30, true), "OLD February 30 of a long year");
        Due.is(-5, x().day(1704, 2, 30, false), "NEW February 30 of a long year");
    }

    private static void everyDateOfAllYears() {
        Due.says("all dates of the years 1 .. 2400, one behind the other");
        LocalDate first = LocalDate.of(1, 1, 1);
        int old = -2;
        for (int year = 1; year <= 2400; year++) {
            for (int m = 1; m <= 12; m++) {
                int oldLength = LENGTHS[m - 1] + (m == 2 && year % 4 == 0 ? 1 : 0);
                Due.is(old, x().day(year, m, 1, true), "OLD " + year + " " + m);
                Due.is(old + oldLength - 1, x().day(year, m, oldLength, true), "the end of OLD " + year + " " + m);
                Due.is(-5, x().day(year, m, oldLength + 1, true), "behind the end of OLD " + year + " " + m);
                old += oldLength;
                LocalDate month = LocalDate.of(year, m, 1);
                long begins = month.toEpochDay() - first.toEpochDay();
                Due.is(begins, x().day(year, m, 1, false), "NEW " + year + " " + m);
                Due.is(begins + month.lengthOfMonth() - 1, x().day(year, m, month.lengthOfMonth(), false), "its end");
                Due.is(-5, x().day(year, m, month.lengthOfMonth() + 1, false), "behind it");
            }
        }
    }

    private static void dateIsOfDays0To800000() {
        Due.says("3: of a DAY (0 .. 800000)");
        int[] none = {-1, -2, -3, 800001, MIN, MAX};
        for (int day : none) {
            for (int what = 0; what <= 2; what++) {
                Due.is(-1, x().date(day, true, what), "OLD date of " + day);
                Due.is(-1, x().date(day, false, what), "NEW date of " + day);
            }
        }
        LocalDate last = LocalDate.of(1, 1, 1).plusDays(800000);
        Due.is(last.getYear(), x().date(800000, false, 0), "NEW year of the last DAY");
        Due.is(last.getMonthValue(), x().date(800000, false, 1), "NEW month of the last DAY");
        Due.is(last.getDayOfMonth(), x().date(800000, false, 2), "NEW day of the last DAY");
        int[] oldDate = {x().date(800000, true, 0), x().date(800000, true, 1), x().date(800000, true, 2)};
        Due.is(800000, x().day(oldDate[0], oldDate[1], oldDate[2], true), "OLD date of the last DAY");
    }

    private static void dateTellsYearMonthDay() {
        Due.says("3: 0 year, 1 month, 2 day");
        Due.is(1582, x().date(577735, false, 0), "year");
        Due.is(10, x().date(577735, false, 1), "month");
        Due.is(15, x().date(577735, false, 2), "day");
        Due.is(5, x().date(577735, true, 2), "OLD day");
        int[] none = {-1, 3, MIN, MAX};
        for (int what : none) {
            Due.is(-1, x().date(577735, true, what), "what " + what);
            Due.is(-1, x().date(577735, false, what), "what " + what);
        }
    }

    private static void dateTellsTheEndsOfMonths() {
        Due.says("3: the ends of months in short and long years");
        int[] years = {1, 3, 4, 99, 100, 101, 399, 400, 401, 1600, 1699, 1700, 1701, 1899, 1900, 2000, 2100, 2190};
        for (int year : years) {
            for (int m = 1; m <= 12; m++) {
                date(year, m, 1, true);
                date(year, m, 1, false);
                int hundredsLong = year % 400 == 0 || year % 100 != 0 ? 1 : 0;
                int leap = m == 2 && year % 4 == 0 ? 1 : 0;
                date(year, m, LENGTHS[m - 1] + leap, true);
                date(year, m, LENGTHS[m - 1] + leap * hundredsLong, false);
            }
        }
    }

    private static void date(int year, int month, int day, boolean old) {
        int n = x().day(year, month, day, old);
        if (n >= 0) {
            String call = (old ? " OLD " : " NEW ") + year + " " + month + " " + day;
            Due.is(year, x().date(n, old, 0), "year of" + call);
            Due.is(month, x().date(n, old, 1), "month of" + call);
            Due.is(day, x().date(n, old, 2), "day of" + call);
        }
    }

    private static void stylesAre0To3() {
        Due.says("4: -1 (STYLE)");
        int[] none = {-1, 4, MIN, MAX};
        for (int style : none) {
            for (int i = -1; i <= 1; i++) {
                Due.is(-1, x().mayBe(style, 1700, 6, 1, i), "style " + style);
                Due.is(-1, x().mayBe(style, 0, 13, 40, i), "style " + style + " ahead of no DATE");
            }
        }
        Due.is(x().day(1700, 6, 1, true), x().mayBe(0, 1700, 6, 1, 0), "0 is OLD");
        Due.is(x().day(1700, 6, 1, false), x().mayBe(1, 1700, 6, 1, 0), "1 is NEW");
        Due.is(x().day(1700, 6, 1, true), x().mayBe(2, 1700, 6, 1, 0), "2 is OLD from March 25 on");
        Due.is(x().day(1700, 6, 1, false), x().mayBe(3, 1700, 6, 1, 0), "3 is both");
        Due.is(x().day(1700, 6, 1, true), x().mayBe(3, 1700, 6, 1, 1), "3 is both");
    }

    private static void placesOfDaysAreFromMinusOneOn() {
        Due.says("4: -1 (i below -1); how many with i -1");
        for (int style = 0; style <= 3; style++) {
            Due.is(-1, x().mayBe(style, 1700, 6, 1, -2), "i -2");
            Due.is(-1, x().mayBe(style, 1700, 6, 1, MIN), "i far below");
            Due.is(-1, x().mayBe(style, 2401, 6, 1, -2), "i -2 ahead of no DATE");
            Due.is(style == 3 ? 2 : 1, x().mayBe(style, 1700, 6, 1, -1), "how many by style " + style);
        }
    }

    private static void marchYearsBeginOnMarch25() {
        Due.says("January 1 to March 24 are told with the year ahead");
        for (int year = 1698; year <= 1701; year++) {
            for (int m = 1; m <= 12; m++) {
                for (int d = 1; d <= 31; d++) {
                    boolean early = m < 3 || m == 3 && d <= 24;
                    int due = x().day(early ? year + 1 : year, m, d, true);
                    Due.is(due, x().mayBe(2, year, m, d, 0), "by style 2 of " + year + " " + m + " " + d);
                    Due.is(due == -5 ? 0 : 1, x().mayBe(2, year, m, d, -1), "how many");
                }
            }
        }
        Due.is(1, x().mayBe(2, 1700, 3, 25, 0) - x().mayBe(2, 1699, 3, 24, 0), "March 25 is behind March 24");
        Due.is(365, x().mayBe(2, 1700, 3, 24, 0) - x().mayBe(2, 1700, 3, 25, 0) + 1, "1700 has 365 days from March on");
        Due.is(366, x().mayBe(2, 1699, 3, 24, 0) - x().mayBe(2, 1699, 3, 25, 0) + 1, "1699 has 366");
    }

    private static void marchYearsEndWithTheYears() {
        Due.says("years are 1 .. 2400, told ones and the next OLD one");
        int[][] early = {{1, 1}, {2, 28}, {3, 1}, {3, 24}};
        for (int[] e : early) {
            Due.is(-5, x().mayBe(2, 0, e[0], e[1], 0), "no year 0 by style 2");
            Due.is(-5, x().mayBe(3, 0, e[0], e[1], 0), "no year 0 by style 3");
            Due.is(x().day(2, e[0], e[1], true), x().mayBe(2, 1, e[0], e[1], 0), "year 1 is followed by 2");
            Due.is(x().day(2400, e[0], e[1], true), x().mayBe(2, 2399, e[0], e[1], 0), "year 2399 by 2400");
            Due.is(-5, x().mayBe(2, 2400, e[0], e[1], 0), "year 2400 by none");
            Due.is(2, x().mayBe(3, 2400, e[0], e[1], -1), "of 2400 OLD and NEW are left");
            Due.is(-5, x().mayBe(2, -1, e[0], e[1], 0), "no year -1");
            Due.is(-5, x().mayBe(2, 2401, e[0], e[1], 0), "no year 2401");
        }
        Due.is(x().day(2400, 3, 25, true), x().mayBe(2, 2400, 3, 25, 0), "March 25 of 2400");
        Due.is(x().day(1, 3, 25, true), x().mayBe(2, 1, 3, 25, 0), "March 25 of 1");
        Due.is(-5, x().mayBe(2, MAX, 1, 1, 0), "the year behind the last int");
        Due.is(-5, x().mayBe(2, MIN, 1, 1, 0), "the first int");
    }

    private static void strangeStylesTellEachDayOnce() {
        Due.says("STYLE 3: each DAY once");
        // OLD and NEW are one from March 1 of 200 to February 28 of 300
        int[][] dates = {
            {200, 2, 28, 3}, {200, 3, 1, 2}, {200, 3, 24, 2}, {200, 3, 25, 1}, {299, 12, 31, 1}, {300, 1, 1, 2},
            {300, 2, 28, 2}, {300, 3, 1, 3}, {300, 3, 24, 3}, {300, 3, 25, 2}, {300, 2, 29, 1}, {199, 2, 29, 1},
            {200, 2, 29, 1}, {1703, 2, 29, 1}, {1704, 2, 29, 2}, {1700, 2, 29, 1}, {1999, 2, 29, 1}, {1999, 2, 28, 3},
        };
        for (int[] d : dates) {
            Due.is(d[3], x().mayBe(3, d[0], d[1], d[2], -1), "how many of " + d[0] + " " + d[1] + " " + d[2]);
            Due.is(-5, x().mayBe(3, d[0], d[1], d[2], d[3]), "one more of " + d[0] + " " + d[1] + " " + d[2]);
        }
        Due.is(x().day(250, 7, 7, false), x().mayBe(3, 250, 7, 7, 0), "the only one");
    }

    private static void strangeStylesRise() {
        Due.says("STYLE 3: rising");
        int[] years = {1, 2, 50, 99, 100, 150, 199, 200, 201, 250, 299, 300, 301, 1000, 1582, 1700, 2399, 2400};
        int[][] dates = {{1, 1}, {2, 28}, {3, 24}, {3, 25}, {12, 31}};
        for (int year : years) {
            for (int[] d : dates) {
                int last = -3;
                int many = x().mayBe(3, year, d[0], d[1], -1);
                for (int i = 0; i < many; i++) {
                    int next = x().mayBe(3, year, d[0], d[1], i);
                    Due.isTrue(next > last, "rising in " + year + " " + d[0] + " " + d[1]);
                    last = next;
                }
            }
        }
        Due.is(x().day(50, 1, 1, true), x().mayBe(3, 50, 1, 1, 0), "OLD is first in year 50");
        Due.is(x().day(50, 1, 1, false), x().mayBe(3, 50, 1, 1, 1), "then NEW");
        Due.is(x().day(51, 1, 1, true), x().mayBe(3, 50, 1, 1, 2), "then as 2");
        Due.is(x().day(350, 1, 1, false), x().mayBe(3, 350, 1, 1, 0), "NEW is first in year 350");
        Due.is(x().day(350, 1, 1, true), x().mayBe(3, 350, 1, 1, 1), "then OLD");
    }

    private static void noneSuchAndHowMany() {
        Due.says("4: -5: none such");
        for (int style = 0; style <= 2; style++) {
            Due.is(-5, x().mayBe(style, 1700, 6, 1, 1), "a second one by style " + style);
            Due.is(-5, x().mayBe(style, 1700, 6, 1, MAX), "one far on by style " + style);
        }
        for (int style = 0; style <= 3; style++) {
            Due.is(-5, x().mayBe(style, 1701, 2, 30, 0), "no DATE by style " + style);
            Due.is(-5, x().mayBe(style, 1701, 0, 1, 0), "no month by style " + style);
            Due.is(-5, x().mayBe(style, 1701, 13, 1, 0), "no month by style " + style);
            Due.is(-5, x().mayBe(style, 1701, 1, 0, 0), "no day by style " + style);
            Due.is(-5, x().mayBe(style, 1701, 1, 32, 0), "no day by style " + style);
            Due.is(-5, x().mayBe(style, 1701, MIN, MIN, 0), "far below by style " + style);
            Due.is(-5, x().mayBe(style, 1701, MAX, MAX, 0), "far above by style " + style);
            Due.is(0, x().mayBe(style, 1701, 2, 30, -1), "how many of no DATE by style " + style);
        }
    }

    private static void landIsOfPlaces() {
        Due.says("5: PLACES are x 0 .. 35, y 0 .. 17");
        NeedleCharts x = new NeedleCharts();
        int[][] none = {
            {-1, 0, 0}, {-1, -1, 0}, {35, 36, 0}, {36, 36, 0}, {0, 0, -1}, {0, 0, 18}, {MIN, 0, 0}, {0, MAX, 0},
            {0, 0, MIN}, {0, 0, MAX}, {MIN, MAX, 0}, {MAX, MIN, 0},
        };
        for (int[] n : none) {
            Due.is(-1, x.land(n[0], n[1], n[2], true), "land " + n[0] + " " + n[1] + " " + n[2]);
            Due.is(-1, x.land(n[0], n[1], n[2], false), "sea " + n[0] + " " + n[1] + " " + n[2]);
        }
        Due.is(0, x.count(7), "a refused call changes nothing");
        int[][] corners = {{0, 0}, {35, 0}, {0, 17}, {35, 17}};
        for (int i = 0; i < corners.length; i++) {
            Due.is(1, x.land(corners[i][0], corners[i][0], corners[i][1], true), "corner " + i);
            Due.is(i + 1, x.count(7), "LAND");
        }
    }

    private static void landTellsHowManyChanged() {
        Due.says("5: how many changed");
        NeedleCharts x = new NeedleCharts();
        Due.is(36, x.land(0, 35, 5, true), "all of a row");
        Due.is(0, x.land(0, 35, 5, true), "none of it");
        Due.is(34, x.land(1, 34, 5, false), "all but its ends");
        Due.is(1, x.land(0, 1, 5, false), "one of two");
        Due.is(35, x.land(0, 35, 5, true), "all but its end");
        Due.is(0, x.land(3, 3, 4, false), "the row below is SEA");
        Due.is(0, x.land(3, 3, 6, false), "the row above is SEA");
    }

    private static void landRefusedChangesNothing() {
        Due.says("5: -1; a refused call changes nothing");
        NeedleCharts x = new NeedleCharts();
        x.land(10, 20, 9, true);
        x.land(5, 36, 9, true);
        x.land(-1, 40, 9, false);
        x.land(20, 10, 9, false);
        Due.is(-1, x.land(20, 19, 9, false), "x0 above x1");
        Due.is(11, x.count(7), "LAND");
        Due.is(11, x.land(0, 35, 9, false), "as it was");
    }
}

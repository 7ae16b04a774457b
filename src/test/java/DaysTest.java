/** Promises 1 to 5: a new object, day, date, mayBe, land. */
public final class DaysTest {
    private static NeedleCharts charts = new NeedleCharts();
    private static int calls = 0;

    public static void main(String[] args) {
        aNewObjectIsEmpty();
        days();
        months();
        noDates();
        dates();
        everyDateComesBack();
        mayBeByOneStyle();
        mayBeByAnyStyle();
        mayBeAtTheEndsOfTheYears();
        land();
        Due.end("DaysTest");
    }

    /** An object is used for 512 calls at most. */
    private static NeedleCharts x() {
        calls++;
        if (calls % 512 == 0) {
            charts = new NeedleCharts();
        }
        return charts;
    }

    private static void aNewObjectIsEmpty() {
        NeedleCharts x = new NeedleCharts();
        for (int what = 0; what <= 8; what++) {
            Due.is(0, x.count(what), "count(" + what + ") of a new object");
        }
        Due.is(0, x.field(35, 17, 800000), "field without epochs");
        Due.is(-11, x.heft(0), "heft of an empty shelf");
        Due.is(-3, x.restore(), "restore without an image");
        Due.is(-4, x.peace(0), "peace without readings");
        Due.is(0, x.next(9999, 1), "next without offers");
        Due.is(-3, x.solve(1), "solve without an epoch");
        Due.is(-1, x.shift(0), "shift without a voyage");
    }

    private static void days() {
        Due.is(0, x().day(1, 1, 1, false), "day 0");
        Due.is(-2, x().day(1, 1, 1, true), "the first old day");
        Due.is(-1, x().day(1, 1, 2, true), "the second old day");
        Due.is(364, x().day(1, 12, 31, false), "the end of year 1");
        Due.is(365, x().day(2, 1, 1, false), "year 2");
        Due.is(3 * 365 + 59, x().day(4, 2, 29, false), "the first long year");
        Due.is(36524, x().day(101, 1, 1, false), "year 100 is short in the new calendar");
        Due.is(36523, x().day(101, 1, 1, true), "and long in the old one");
        Due.is(146097, x().day(401, 1, 1, false), "year 400 is long in both");
        Due.is(577734, x().day(1582, 10, 4, true), "the last old day in Rome");
        Due.is(577734, x().day(1582, 10, 14, false), "the same day by the new one");
        Due.is(x().day(1752, 9, 2, true) + 1, x().day(1752, 9, 14, false), "the leap in London");
        Due.is(876581, x().day(2400, 12, 31, false), "the last new day");
        Due.is(876597, x().day(2400, 12, 31, true), "the last old day");
    }

    private static void months() {
        int[] lengths = {31, 28, 31, 30, 31, 30, 31, 31, 30, 31, 30, 31};
        for (int year = 1699; year <= 1704; year++) {
            for (int m = 1; m <= 12; m++) {
                month(year, m, true, lengths[m - 1] + (m == 2 && (year == 1700 || year == 1704) ? 1 : 0));
                month(year, m, false, lengths[m - 1] + (m == 2 && year == 1704 ? 1 : 0));
            }
        }
    }

    private static void month(int year, int month, boolean old, int length) {
        int first = x().day(year, month, 1, old);
        Due.is(-5, x().day(year, month, length + 1, old), "a day behind month " + month + " of " + year);
        Due.is(first + length - 1, x().day(year, month, length, old), "the last day of month " + month + " of " + year);
        int next = month < 12 ? x().day(year, month + 1, 1, old) : x().day(year + 1, 1, 1, old);
        Due.is(first + length, next, "the first day behind month " + month + " of " + year);
    }

    private static void noDates() {
        int[][] none = {
            {0, 1, 1}, {2401, 1, 1}, {-4, 2, 29}, {1700, 0, 1}, {1700, 13, 1}, {1700, 1, 0}, {1700, 1, 32}, {1700, 4, 31},
            {1701, 2, 29}, {1704, 2, 30}, {Integer.MIN_VALUE, 1, 1}, {1700, Integer.MAX_VALUE, 1},
            {1700, 1, Integer.MIN_VALUE}, {1700, Integer.MIN_VALUE, 1}, {Integer.MAX_VALUE, 1, 1},
        };
        for (int[] d : none) {
            Due.is(-5, x().day(d[0], d[1], d[2], true), "old day " + d[0] + " " + d[1] + " " + d[2]);
            Due.is(-5, x().day(d[0], d[1], d[2], false), "new day " + d[0] + " " + d[1] + " " + d[2]);
        }
        Due.is(-5, x().day(1700, 2, 29, false), "1700 is short in the new calendar");
        Due.isTrue(x().day(1700, 2, 29, true) > 0, "and long in the old one");
        Due.isTrue(x().day(1600, 2, 29, false) > 0, "400 divides 1600");
    }

    private static void dates() {
        int rome = x().day(1582, 10, 15, false);
        Due.is(1582, x().date(rome, true, 0), "year");
        Due.is(10, x().date(rome, true, 1), "month");
        Due.is(5, x().date(rome, true, 2), "day");
        Due.is(1, x().date(0, false, 2), "new day 0");
        Due.is(3, x().date(0, true, 2), "old day 0");
        Due.is(2191, x().date(800000, false, 0), "year of the last day");
        Due.is(-1, x().date(-1, true, 0), "a day below 0");
        Due.is(-1, x().date(800001, true, 0), "a day above the last");
        Due.is(-1, x().date(5, true, 3), "what 3");
        Due.is(-1, x().date(5, true, -1), "what -1");
    }

    private static void everyDateComesBack() {
        for (int day = 0; day <= 800000; day += 61) {
            comesBack(day, true);
            comesBack(day, false);
        }
        comesBack(800000, true);
        comesBack(800000, false);
        for (int year = 4; year <= 2190; year++) {
            for (int day = x().day(year, 12, 30, true); day < x().day(year + 1, 1, 3, true); day++) {
                comesBack(day, true);
                comesBack(day, false);
            }
        }
    }

    private static void comesBack(int day, boolean old) {
        int again = x().day(x().date(day, old, 0), x().date(day, old, 1), x().date(day, old, 2), old);
        Due.is(day, again, "the day of the date of " + day);
    }

    private static void mayBeByOneStyle() {
        Due.is(x().day(1650, 6, 5, true), x().mayBe(0, 1650, 6, 5, 0), "old");
        Due.is(x().day(1650, 6, 5, false), x().mayBe(1, 1650, 6, 5, 0), "new");
        Due.is(x().day(1650, 3, 25, true), x().mayBe(2, 1650, 3, 25, 0), "the first day of a year from March on");
        Due.is(x().day(1651, 3, 24, true), x().mayBe(2, 1650, 3, 24, 0), "its last day");
        Due.is(x().day(1650, 12, 31, true), x().mayBe(2, 1650, 12, 31, 0), "its December");
        Due.is(x().day(1651, 1, 1, true), x().mayBe(2, 1650, 1, 1, 0), "its January");
        Due.is(x().day(1652, 2, 29, true), x().mayBe(2, 1651, 2, 29, 0), "its February is that of the next year");
        Due.is(-5, x().mayBe(2, 1652, 2, 29, 0), "and not of its own");
        Due.is(1, x().mayBe(2, 1650, 1, 1, -1), "how many");
        Due.is(-5, x().mayBe(2, 1650, 1, 1, 1), "a second one");
        Due.is(-5, x().mayBe(2, 2400, 3, 24, 0), "there is no year 2401");
        Due.is(x().day(2400, 3, 25, true), x().mayBe(2, 2400, 3, 25, 0), "the last year from March on");
        Due.is(-5, x().mayBe(1, 1700, 2, 29, 0), "no new date");
        Due.is(0, x().mayBe(1, 1700, 2, 29, -1), "no new date: none");
        Due.is(-2, x().mayBe(0, 1, 1, 1, 0), "a day below 0");
        Due.is(-5, x().mayBe(2, Integer.MAX_VALUE, 1, 1, 0), "a year far off");
    }

    private static void mayBeByAnyStyle() {
        Due.is(3, x().mayBe(3, 1650, 1, 1, -1), "three days");
        Due.is(x().day(1650, 1, 1, false), x().mayBe(3, 1650, 1, 1, 0), "new is first");
        Due.is(x().day(1650, 1, 1, true), x().mayBe(3, 1650, 1, 1, 1), "then old");
        Due.is(x().day(1651, 1, 1, true), x().mayBe(3, 1650, 1, 1, 2), "then from March on");
        Due.is(-5, x().mayBe(3, 1650, 1, 1, 3), "no fourth");
        Due.is(-5, x().mayBe(3, 1650, 1, 1, Integer.MAX_VALUE), "none so far on");
        Due.is(2, x().mayBe(3, 250, 1, 1, -1), "old and new are one day in the third century");
        Due.is(1, x().mayBe(3, 250, 6, 1, -1), "all are one day");
        Due.is(3, x().mayBe(3, 1, 1, 1, -1), "old is first in year 1");
        Due.is(-2, x().mayBe(3, 1, 1, 1, 0), "old in year 1");
        Due.is(0, x().mayBe(3, 1, 1, 1, 1), "new in year 1");
        Due.is(1, x().mayBe(3, 1703, 2, 29, -1), "from March on alone");
        Due.is(0, x().mayBe(3, 1703, 2, 30, -1), "no date at all");
        Due.is(-1, x().mayBe(-1, 1650, 1, 1, 0), "style -1");
        Due.is(-1, x().mayBe(4, 1650, 1, 1, 0), "style 4");
        Due.is(-1, x().mayBe(0, 1650, 1, 1, -2), "i -2");
        Due.is(-1, x().mayBe(0, 1650, 13, 1, -2), "i -2 comes ahead of no date");
    }

    /** The told year itself must be 1 .. 2400, and the OLD DATE's year too, which may be the next one. */
    private static void mayBeAtTheEndsOfTheYears() {
        int[] noYears = {0, -1, -4, 2401, Integer.MIN_VALUE, Integer.MAX_VALUE};
        int[][] dates = {{1, 1}, {2, 28}, {2, 29}, {3, 24}, {3, 25}, {12, 31}};
        for (int year : noYears) {
            for (int[] date : dates) {
                for (int style = 0; style <= 3; style++) {
                    String call = "style " + style + " of " + year + " " + date[0] + " " + date[1];
                    Due.is(-5, x().mayBe(style, year, date[0], date[1], 0), call);
                    Due.is(0, x().mayBe(style, year, date[0], date[1], -1), "how many by " + call);
                }
            }
        }
        Due.is(x().day(2, 1, 1, true), x().mayBe(2, 1, 1, 1, 0), "January of the first year is that of year 2");
        Due.is(x().day(2, 3, 24, true), x().mayBe(2, 1, 3, 24, 0), "the last day of the first year");
        Due.is(x().day(1, 3, 25, true), x().mayBe(2, 1, 3, 25, 0), "the first day of the first year");
        Due.is(x().day(2400, 3, 24, true), x().mayBe(2, 2399, 3, 24, 0), "the last day of year 2399");
        Due.is(x().day(2400, 2, 29, true), x().mayBe(2, 2399, 2, 29, 0), "its February 29 is that of 2400");
        Due.is(-5, x().mayBe(2, 2400, 1, 1, 0), "no January behind year 2400");
        Due.is(2, x().mayBe(3, 2400, 1, 1, -1), "old and new are left in 2400");
        Due.is(x().day(2400, 1, 1, true), x().mayBe(3, 2400, 1, 1, 1), "of which old is the later one");
    }

    private static void land() {
        NeedleCharts x = new NeedleCharts();
        Due.is(36, x.land(0, 35, 0, true), "a whole row");
        Due.is(0, x.land(0, 35, 0, true), "nothing changes");
        Due.is(2, x.land(34, 35, 0, false), "its end is sea");
        Due.is(4, x.land(32, 35, 17, true), "the last row");
        Due.is(38, x.count(7), "land");
        Due.is(0, x.land(0, 5, 3, false), "sea already");
        int[][] wrong = {{-1, 3, 0}, {0, 36, 0}, {4, 3, 0}, {0, 3, -1}, {0, 3, 18}, {0, Integer.MAX_VALUE, 0}};
        for (int[] w : wrong) {
            Due.is(-1, x.land(w[0], w[1], w[2], true), "land " + w[0] + " " + w[1] + " " + w[2]);
        }
        Due.is(38, x.count(7), "a refused call changes nothing");
    }
}

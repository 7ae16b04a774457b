/** Promises 34 to 40: turned, left, chart, off, late, offer, next. */
public final class ChartsTest {
    public static void main(String[] args) {
        turning();
        linesLeft();
        charts();
        offThenAndNow();
        late();
        lateRefuses();
        offers();
        nextIsWorthItsCoin();
        nextOfSeveral();
        Due.end("ChartsTest");
    }

    /** The FIELD is 0 on day 0 and falls to -9999 on day 9999, everywhere. */
    private static NeedleCharts falling() {
        NeedleCharts x = new NeedleCharts();
        x.epoch(0);
        x.epoch(9999);
        x.number(1, 0, -9999);
        return x;
    }

    private static void turning() {
        NeedleCharts x = falling();
        Due.is(100, x.turned(100, 0, 5, 5), "to the same day");
        Due.is(3597, x.turned(3598, 0, 5, 4), "true is 3593, less -4 is 3597");
        Due.is(0, x.turned(3599, 0, 0, 1), "over the north");
        Due.is(3599, x.turned(0, 0, 1, 0), "and back");
        Due.is(9999 - 7200, x.turned(0, 647, 0, 9999), "several times round");
        Due.is(3 * 3600 - 9999, x.turned(0, 647, 9999, 0), "and back");
        int[][] wrong = {
            {-1, 0, 0, 0}, {3600, 0, 0, 0}, {0, -1, 0, 0}, {0, 648, 0, 0}, {0, 0, -1, 0}, {0, 0, 800001, 0},
            {0, 0, 0, -1}, {0, 0, 0, 800001},
        };
        for (int[] w : wrong) {
            Due.is(-1, x.turned(w[0], w[1], w[2], w[3]), "turned " + java.util.Arrays.toString(w));
        }
        Due.is(77, new NeedleCharts().turned(77, 3, 0, 9), "without epochs");
        NeedleCharts y = tilted();
        Due.is(300 - 17, y.turned(300, 18 * 35 + 17, 0, 100), "by 10 at y 10, by 17 at y 17");
        Due.is(17 + 20, y.left(18 * 35 + 17, 0, 0, 20, 100), "the same for lines");
        y.chart(0);
        Due.is(17, y.off(0, 18 * 35 + 17, 100, false), "and for charts");
        Due.numbers(y, 0, 1, 18 * 35 + 17);
        Due.is(365, y.late(0, 0, 16), "that are too old");
        Due.is(-4, y.late(0, 0, 17), "or not");
    }

    /** The FIELD is 0 on day 0 and y from day 100 on. */
    private static NeedleCharts tilted() {
        NeedleCharts x = new NeedleCharts();
        x.epoch(0);
        x.epoch(100);
        x.number(1, 2, 10);
        return x;
    }

    private static void linesLeft() {
        NeedleCharts x = falling();
        Due.is(0, x.left(0, 10, 7, 10, 7), "the same line");
        Due.is(1, x.left(0, 10, 7, 11, 7), "one more");
        Due.is(2, x.left(0, 3599, 0, 1, 0), "over the north");
        Due.is(1800, x.left(0, 0, 0, 1800, 0), "the other way");
        Due.is(1799, x.left(0, 0, 0, 1801, 0), "a little beyond");
        Due.is(5, x.left(0, 0, 0, 0, 5), "the needle has gone on");
        Due.is(0, x.left(0, 0, 0, 5, 5), "and so has the line");
        Due.is(3 * 3600 - 9999, x.left(0, 0, 0, 0, 9999), "several times round");
        int[][] wrong = {
            {-1, 0, 0, 0, 0}, {648, 0, 0, 0, 0}, {0, -1, 0, 0, 0}, {0, 3600, 0, 0, 0}, {0, 0, -1, 0, 0},
            {0, 0, 800001, 0, 0}, {0, 0, 0, -1, 0}, {0, 0, 0, 3600, 0}, {0, 0, 0, 0, -1}, {0, 0, 0, 0, 800001},
        };
        for (int[] w : wrong) {
            Due.is(-1, x.left(w[0], w[1], w[2], w[3], w[4]), "left " + java.util.Arrays.toString(w));
        }
    }

    private static void charts() {
        NeedleCharts x = new NeedleCharts();
        Due.is(-3, x.chart(0), "no epoch");
        Due.is(-1, x.chart(-1), "a day below 0");
        Due.is(-1, x.chart(800001), "a day above the last");
        x.epoch(0);
        for (int i = 0; i < 6; i++) {
            Due.is(i, x.chart(i * 160000), "chart " + i);
        }
        Due.is(-2, x.chart(0), "no room");
        Due.is(-1, x.chart(-1), "not as told is ahead of no room");
        Due.is(6, x.count(4), "charts");
    }

    private static void offThenAndNow() {
        NeedleCharts x = new NeedleCharts();
        x.epoch(1000);
        x.number(0, 0, 10);
        x.chart(500);
        x.epoch(2000);
        x.number(1, 0, 110);
        x.chart(1100);
        x.number(0, 0, 30);
        x.number(1, 1, 10);
        // what chart 0 keeps is 10 for ever; chart 1: 10 on day 1000 to 110 on day 2000, so 20 on its day
        Due.is(0, x.off(0, 0, 1500, false), "chart 0, then");
        Due.is(70 - 10, x.off(0, 0, 1500, true), "chart 0, now");
        Due.is(60 - 20, x.off(1, 0, 1500, false), "chart 1, then");
        Due.is(70 - 20, x.off(1, 0, 1500, true), "chart 1, now");
        Due.is(110 + 20 - 20, x.off(1, 18 * 20, 2000, true), "chart 1, now, at another place");
        Due.is(110 - 20, x.off(1, 18 * 20, 2000, false), "chart 1, then, at another place");
        Due.is(-10, x.off(1, 0, 0, false), "ahead of all");
        int[][] wrong = {{-1, 0, 0}, {2, 0, 0}, {0, -1, 0}, {0, 648, 0}, {0, 0, -1}, {0, 0, 800001}};
        for (int[] w : wrong) {
            Due.illegal(() -> x.off(w[0], w[1], w[2], true), "off " + w[0] + " " + w[1] + " " + w[2]);
            Due.illegal(() -> x.off(w[0], w[1], w[2], false), "off " + w[0] + " " + w[1] + " " + w[2]);
        }
    }

    private static void late() {
        NeedleCharts x = new NeedleCharts();
        x.epoch(0);
        x.epoch(36500);
        x.number(1, 0, -100);
        x.number(1, 1, 500);
        x.chart(0);
        // by each 365 days: -1 at x 0, +9 at x 20, 0 at x 2
        Due.numbers(x, 0, 1, 0);
        Due.is(365, x.late(0, 0, 0), "the first step");
        Due.is(365 * 6, x.late(0, 0, 5), "above 5 without sign");
        Due.is(365 * 100, x.late(0, 0, 99), "the last step");
        Due.is(-4, x.late(0, 0, 100), "never above 100");
        Due.numbers(x, 0, 1, 19 * 18, 0);
        Due.is(365 * 100, x.late(0, 0, 849), "850 at the last step");
        x.number(1, 0, 0);
        x.number(1, 1, 0);
        x.epoch(36501);
        x.number(2, 0, 9999);
        Due.is(-4, x.late(0, 0, 0), "a hundred steps, and none more");
        x.number(1, 0, -100);
        x.number(1, 1, 500);
        x.number(2, 0, -100);
        x.number(2, 1, 500);
        Due.numbers(x, 0, 1, 0, 360, 36);
        Due.is(365, x.late(0, 0, 5), "one of the places");
        Due.is(365 * 2, x.late(0, 0, 17), "one of the places");
        Due.numbers(x, 0, 1, 36, 37, 38);
        Due.is(-4, x.late(0, 0, 0), "none of them");
        Due.numbers(x, 0, 1);
        Due.is(-4, x.late(0, 0, 0), "no places");
        x.chart(800000);
        x.number(1, 0, -90);
        x.number(2, 0, -90);
        Due.numbers(x, 0, 1, 0);
        Due.is(800365, x.late(1, 0, 9), "a day behind all days of the calls");
        Due.is(-4, x.late(1, 0, 10), "the field stays as it is behind the last epoch");
        Due.is(365 * 13, x.late(0, 0, 10), "by the field as it is now: -10.8 is -10, -11.7 is -11");
    }

    private static void lateRefuses() {
        NeedleCharts x = new NeedleCharts();
        x.epoch(0);
        x.chart(0);
        x.reading(0, 0, 0, 0, 0, 0);
        x.keep(1, 1, 0);
        x.row(2, 0, 1);
        x.row(3, 2, 1);
        Due.numbers(x, 4, 1, 0, 647);
        Due.numbers(x, 5, 1, 0, 648);
        Due.numbers(x, 6, 1, -1, 0);
        int[] shelves = {-1, 8, 0, 1, 2, 3, 4, 5, 6};
        int[] answers = {-1, -1, -11, -12, -12, -12, -4, -13, -13};
        for (int i = 0; i < shelves.length; i++) {
            Due.is(answers[i], x.late(0, shelves[i], 0), "late " + shelves[i]);
        }
        Due.is(-1, x.late(1, 0, 0), "no chart is ahead of nothing held");
        Due.is(-1, x.late(-1, 4, 0), "chart -1");
        Due.is(-1, x.late(0, 5, -1), "below 0 is ahead of no place");
        Due.is(-1, x.late(0, 4, 10000), "10000");
        Due.is(-4, x.late(0, 4, 9999), "9999");
    }

    private static void offers() {
        NeedleCharts x = new NeedleCharts();
        int[][] wrong = {{-1, 0, 1}, {36, 0, 1}, {0, -1, 1}, {0, 18, 1}, {0, 0, 0}, {0, 0, 1000}};
        for (int[] w : wrong) {
            Due.is(-1, x.offer(w[0], w[1], w[2]), "offer " + w[0] + " " + w[1] + " " + w[2]);
        }
        for (int i = 1; i <= 8; i++) {
            Due.is(i, x.offer(35, 17, 999), "offer " + i);
        }
        Due.is(-2, x.offer(0, 0, 1), "no room");
        Due.is(-1, x.offer(0, 0, 0), "not as told is ahead of no room");
        Due.is(8, x.count(5), "offered");
        Due.is(25, x.next(9999, 0), "a corner sees 5 times 5");
        Due.is(1, x.next(9999, 1), "one of the eight is enough");
        Due.is(999, x.next(9999, 2), "and costs 999");
        Due.is(0, x.next(998, 0), "which is too much");
        int[][] no = {{-1, 0}, {10000, 0}, {0, -1}, {0, 3}};
        for (int[] n : no) {
            Due.is(-1, x.next(n[0], n[1]), "next " + n[0] + " " + n[1]);
        }
    }

    private static void nextIsWorthItsCoin() {
        NeedleCharts x = new NeedleCharts();
        x.offer(4, 4, 10);
        x.offer(13, 4, 20);
        x.offer(9, 4, 15);
        int[] coins = {9, 10, 14, 25, 29, 30, 34, 44, 45, 9999};
        int[] seen = {0, 81, 81, 126, 126, 162, 162, 162, 162, 162};
        int[] sets = {0, 1, 1, 5, 5, 3, 3, 3, 3, 3};
        int[] costs = {0, 10, 10, 25, 25, 30, 30, 30, 30, 30};
        for (int i = 0; i < coins.length; i++) {
            Due.is(seen[i], x.next(coins[i], 0), "seen with " + coins[i]);
            Due.is(sets[i], x.next(coins[i], 1), "set with " + coins[i]);
            Due.is(costs[i], x.next(coins[i], 2), "cost with " + coins[i]);
        }
        x.land(0, 35, 4, true);
        Due.is(162, x.next(9999, 0), "land is seen, too");
        NeedleCharts all = new NeedleCharts();
        for (int i = 0; i < 8; i++) {
            all.offer(4 + 9 * (i % 4), 4 + 9 * (i / 4), 1);
        }
        Due.is(648, all.next(8, 0), "all places");
        Due.is(255, all.next(8, 1), "by all eight");
        Due.is(7 * 81, all.next(7, 0), "all but one");
        Due.is(127, all.next(7, 1), "the least as bits");
    }

    private static void nextOfSeveral() {
        NeedleCharts x = new NeedleCharts();
        x.offer(10, 10, 7);
        x.offer(20, 10, 6);
        x.offer(10, 10, 6);
        x.offer(20, 10, 6);
        Due.is(2, x.next(7, 1), "the cheapest, then the least as bits");
        Due.is(6, x.next(12, 1), "two of them");
        Due.is(12, x.next(20, 2), "what they cost");
        Due.is(162, x.next(9999, 0), "what they see");
    }
}

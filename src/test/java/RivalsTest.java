/** Promises 31 to 33: rival, peace, judge. */
public final class RivalsTest {
    public static void main(String[] args) {
        whoAreRivals();
        rivalRefuses();
        rivalsByTheEdition();
        peaceOfFew();
        peaceOfSeveral();
        peaceOfTwelve();
        judging();
        judgeRefuses();
        Due.end("RivalsTest");
    }

    private static void whoAreRivals() {
        NeedleCharts x = new NeedleCharts();
        int place = 18 * 5 + 5;
        x.reading(0, 0, place, 1000, 0, 0);
        // kind, place, day, value, whether a rival of reading 0 (spans 20, 35, 30, 5, 45, 20)
        int[][] others = {
            {0, place, 1000, 41, 1}, {0, place, 1000, 40, 0}, {0, place, 1000, -41, 1}, {0, place, 1000, -40, 0},
            {1, place, 1000, 55, 0}, {1, place, 1000, 56, 1}, {2, place, 1000, 50, 0}, {2, place, 1000, 51, 1},
            {3, place, 1000, 25, 0}, {3, place, 1000, 26, 1}, {4, place, 1000, 65, 0}, {4, place, 1000, 66, 1},
            {5, place, 1000, 900, 0}, {0, place, 1365, 41, 1}, {0, place, 1366, 41, 0}, {0, place, 635, 41, 1},
            {0, place, 634, 41, 0}, {0, place + 19, 1000, 41, 1}, {0, place - 19, 1000, 41, 1},
            {0, place + 17, 1000, 41, 1}, {0, place + 2, 1000, 41, 0}, {0, place + 36, 1000, 41, 0},
            {0, place - 36, 1000, 41, 0}, {0, place - 2, 1000, 41, 0}, {0, place, 1000, 1799, 1},
        };
        for (int[] o : others) {
            int n = x.reading(o[0], 0, o[1], o[2], o[3], 0);
            Due.is(o[4], x.rival(0, n), "rival of reading " + n);
            Due.is(o[4], x.rival(n, 0), "the other way round, reading " + n);
        }
        // numbers of places are next to each other though the places are not
        int top = x.reading(0, 0, 17, 5000, 0, 0);
        int bottom = x.reading(0, 0, 18, 5000, 999, 0);
        Due.is(0, x.rival(top, bottom), "0, 17 and 1, 0 are far apart");
    }

    private static void rivalRefuses() {
        NeedleCharts x = new NeedleCharts();
        x.reading(0, 0, 0, 0, 0, 0);
        x.reading(0, 0, 0, 0, 99, 0);
        Due.is(1, x.rival(0, 1), "rivals");
        int[][] wrong = {{0, 0}, {1, 1}, {0, 2}, {2, 0}, {-1, 0}, {0, -1}};
        for (int[] w : wrong) {
            Due.is(-1, x.rival(w[0], w[1]), "rival " + w[0] + " " + w[1]);
        }
    }

    private static void rivalsByTheEdition() {
        NeedleCharts x = new NeedleCharts();
        x.reading(0, 0, 0, 0, 0, 0);
        x.reading(0, 1, 0, 0, 99, 0);
        Due.rule(x, "p:s*79");
        Due.is(1, x.rival(0, 1), "spans are 1 and 79");
        Due.rule(x, "p:99-s");
        Due.is(0, x.rival(0, 1), "spans are 99 and 98");
        x.edition(1);
        x.strike(1);
        Due.is(1, x.rival(0, 1), "spans are 1 and 79 again");
        Due.rule(x, "k:s");
        Due.is(0, x.rival(0, 1), "one is struck");
        Due.is(0, x.peace(-1), "peace at once");
        x.iron(0, 0, 500);
        Due.rule(x, "k:0");
        Due.is(1, x.rival(0, 1), "iron has no part in it");
        Due.rule(x, "g:1");
        Due.is(1, x.rival(0, 1), "a weight of 1 is above 0");
        Due.rule(x, "g:1-s");
        Due.is(0, x.rival(0, 1), "one of 0 is not");
        Due.rule(x, "g:s");
        Due.is(0, x.rival(0, 1), "nor on this side");
    }

    private static void peaceOfFew() {
        NeedleCharts x = new NeedleCharts();
        Due.is(0, x.peace(-1), "none leave");
        Due.is(-4, x.peace(0), "no first one");
        Due.is(-1, x.peace(-2), "-2");
        x.reading(0, 0, 300, 0, 0, 0);
        x.reading(0, 0, 0, 0, 0, 0);
        x.reading(0, 0, 0, 0, 100, 0);
        Due.is(1, x.peace(-1), "one of two leaves");
        Due.is(1, x.peace(0), "the first of them");
        Due.is(-4, x.peace(1), "no second one");
        Due.is(-4, x.peace(Integer.MAX_VALUE), "none so far on");
        x.reading(0, 0, 0, 0, 150, 0);
        Due.is(2, x.peace(-1), "three who are all rivals");
        Due.is(1, x.peace(0), "the first");
        Due.is(2, x.peace(1), "and the second");
        x.reading(0, 0, 0, 0, 101, 0);
        Due.is(2, x.peace(-1), "two of them are at peace");
        Due.is(1, x.peace(0), "so that the first leaves");
        Due.is(3, x.peace(1), "and the third");
    }

    private static void peaceOfSeveral() {
        // 1 is a rival of 0 and of 2; 3 and 4 are rivals of each other: 1 and 3 leave, not more
        NeedleCharts x = new NeedleCharts();
        x.reading(0, 0, 0, 0, 0, 0);
        x.reading(0, 0, 1, 0, 60, 0);
        x.reading(0, 0, 2, 0, 0, 0);
        x.reading(0, 0, 200, 0, 0, 0);
        x.reading(0, 0, 200, 0, 60, 0);
        Due.is(2, x.peace(-1), "two leave");
        Due.is(1, x.peace(0), "the one in the middle");
        Due.is(3, x.peace(1), "and the lesser of two");
        // a path of four, 5 - 6 - 7 - 8: 5 and 7, or 6 and 7, or 6 and 8: the least as bits is 5 and 7
        x.reading(0, 0, 400, 0, 0, 0);
        x.reading(0, 0, 401, 0, 60, 0);
        x.reading(0, 0, 402, 0, 0, 0);
        x.reading(0, 0, 403, 0, 60, 0);
        Due.is(4, x.peace(-1), "four leave");
        Due.is(5, x.peace(2), "5");
        Due.is(7, x.peace(3), "7");
    }

    private static void peaceOfTwelve() {
        NeedleCharts x = new NeedleCharts();
        for (int i = 0; i < 11; i++) {
            x.reading(0, 0, 40 * i, 0, 0, 0);
        }
        // 0 to 10 have a rival each, 11 to 21; the twelfth is 11, so that of the pairs only 0 and 11 is looked at
        for (int i = 0; i < 11; i++) {
            x.reading(0, 0, 40 * i, 0, 100, 0);
        }
        Due.is(1, x.peace(-1), "one leaves");
        Due.is(0, x.peace(0), "the first");
        NeedleCharts y = new NeedleCharts();
        for (int i = 0; i < 14; i++) {
            y.reading(0, 0, 0, 0, 50 * i - 800, 0);
        }
        Due.is(11, y.peace(-1), "all but one of twelve leave");
        for (int i = 0; i < 11; i++) {
            Due.is(i, y.peace(i), "the " + i + "-th");
        }
    }

    private static void judging() {
        NeedleCharts x = new NeedleCharts();
        x.row(0, 0, 0);
        Due.is(-4, x.judge(0), "no readings");
        int[] values = {0, 10, 100, 0, 200};
        for (int v : values) {
            x.reading(0, 0, 0, 0, v, 0);
        }
        Due.is(80 * 0 + 2, x.judge(0), "nobody leaves: 0 and 2");
        int[][] leave = {{2}, {0}, {0, 1}, {0, 2, 1}, {2, 4}, {4, 2, 4, 2}, {-1, 5, 127, -128, 80}, {256, 258}, {0, 1, 3}};
        int[] answers = {4, 82, 163, 80 * 3 + 4, -4, -4, 2, 80 + 4, 80 * 2 + 4};
        for (int i = 0; i < leave.length; i++) {
            Due.numbers(x, 1, 0, leave[i]);
            Due.is(answers[i], x.judge(1), "judge " + java.util.Arrays.toString(leave[i]));
        }
        Due.is(1, x.rival(0, 2), "judging changes nothing");
        // beyond the twelfth, too
        NeedleCharts y = new NeedleCharts();
        for (int i = 0; i < 78; i++) {
            y.reading(0, 0, 0, 0, 0, 0);
        }
        y.reading(0, 0, 600, 0, 0, 0);
        y.reading(0, 0, 600, 0, 900, 0);
        y.row(0, 0, 80);
        Due.is(80 * 78 + 79, y.judge(0), "the last two");
        Due.is(1, y.peace(-1), "one of them leaves");
        Due.is(78, y.peace(0), "the first of them");
    }

    private static void judgeRefuses() {
        NeedleCharts x = new NeedleCharts();
        x.reading(0, 0, 0, 0, 0, 0);
        x.keep(1, 1, 0);
        x.row(2, 1, 0);
        x.row(3, 2, 0);
        int[] shelves = {-1, 8, 0, 1, 2, 3};
        int[] answers = {-1, -1, -11, -12, -12, -12};
        for (int i = 0; i < shelves.length; i++) {
            Due.is(answers[i], x.judge(shelves[i]), "judge " + shelves[i]);
        }
    }
}

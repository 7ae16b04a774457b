/** Promises 22 to 30: epoch, number, told, field, misfit, cost, solve, iron, adjust. */
public final class FieldTest {
    public static void main(String[] args) {
        epochs();
        numbers();
        fieldAtPlaces();
        fieldOnDays();
        misfitAndIron();
        costs();
        costByEditions();
        solveSettles();
        solveRounds();
        solveAtItsEnds();
        solveSmooths();
        solveGoesUpIfBothAreOne();
        solveAtEveryPlace();
        adjusts();
        Due.end("FieldTest");
    }

    private static void epochs() {
        NeedleCharts x = new NeedleCharts();
        Due.is(-1, x.epoch(-1), "a day below 0");
        Due.is(-1, x.epoch(800001), "a day above the last");
        Due.is(0, x.epoch(0), "the first day");
        Due.is(-1, x.epoch(0), "no later");
        Due.is(1, x.epoch(1), "one later");
        Due.is(2, x.epoch(799999), "far later");
        Due.is(-1, x.epoch(5), "ahead of the last");
        Due.is(3, x.epoch(800000), "the last day");
        Due.is(-1, x.epoch(800000), "not as told is ahead of no room");
        Due.is(4, x.count(3), "epochs");
        NeedleCharts y = new NeedleCharts();
        for (int i = 0; i < 4; i++) {
            y.epoch(i);
        }
        Due.is(-2, y.epoch(4), "no room");
        Due.is(-1, y.epoch(3), "not as told");
    }

    private static void numbers() {
        NeedleCharts x = new NeedleCharts();
        Due.is(-1, x.number(0, 0, 1), "no epoch");
        Due.illegal(() -> x.told(0, 0), "told without an epoch");
        x.epoch(5);
        x.epoch(6);
        Due.is(0, x.number(1, 3, 0), "it was 0");
        Due.is(1, x.number(1, 3, -9999), "another");
        Due.is(0, x.number(1, 3, -9999), "the same");
        Due.is(1, x.number(0, 0, 9999), "another");
        Due.is(-9999, x.told(1, 3), "told");
        Due.is(9999, x.told(0, 0), "told");
        Due.is(0, x.told(0, 3), "told");
        int[][] wrong = {{-1, 0, 0}, {2, 0, 0}, {0, -1, 0}, {0, 4, 0}, {0, 0, 10000}, {0, 0, -10000}};
        for (int[] w : wrong) {
            Due.is(-1, x.number(w[0], w[1], w[2]), "number " + w[0] + " " + w[1] + " " + w[2]);
        }
        for (int i = 0; i < 4; i++) {
            int[] w = wrong[i];
            Due.illegal(() -> x.told(w[0], w[1]), "told " + w[0] + " " + w[1]);
        }
    }

    private static void fieldAtPlaces() {
        NeedleCharts x = new NeedleCharts();
        x.epoch(100);
        x.number(0, 0, 7);
        Due.is(7, x.field(35, 17, 100), "c0");
        x.number(0, 1, -3);
        Due.is(7 - 10, x.field(35, 17, 100), "c1: -105 by 10, cut");
        x.number(0, 2, 7);
        Due.is(7 - 10 + 11, x.field(35, 17, 100), "c2: 119 by 10, cut");
        x.number(0, 3, -1);
        Due.is(7 - 10 + 11 - 5, x.field(35, 17, 100), "c3: -595 by 100, cut");
        Due.is(7, x.field(0, 0, 100), "at 0, 0");
        Due.is(7, x.field(3, 0, 100), "-9 by 10 is 0");
        for (int which = 0; which < 4; which++) {
            x.number(0, which, 9999);
        }
        Due.is(9999 + 34996 + 16998 + 59494, x.field(35, 17, 0), "the largest");
        int[][] wrong = {{-1, 0, 0}, {36, 0, 0}, {0, -1, 0}, {0, 18, 0}, {0, 0, -1}, {0, 0, 800001}};
        NeedleCharts none = new NeedleCharts();
        for (int[] w : wrong) {
            Due.illegal(() -> x.field(w[0], w[1], w[2]), "field " + w[0] + " " + w[1] + " " + w[2]);
            Due.illegal(() -> none.field(w[0], w[1], w[2]), "field without epochs, too");
        }
    }

    private static void fieldOnDays() {
        NeedleCharts x = new NeedleCharts();
        x.epoch(1000);
        x.number(0, 0, 10);
        Due.is(10, x.field(1, 1, 0) + 0, "ahead of the only epoch");
        Due.is(10, x.field(1, 1, 800000), "behind it");
        x.epoch(1007);
        x.number(1, 0, 0);
        x.epoch(801000 - 1000);
        x.number(2, 0, -9999);
        int[] days = {999, 1000, 1001, 1003, 1006, 1007, 800000};
        int[] values = {10, 10, 9, 6, 2, 0, -9999};
        for (int i = 0; i < days.length; i++) {
            Due.is(values[i], x.field(1, 1, days[i]), "field on day " + days[i]);
        }
        // -9999 times 400000 is beyond 32 bits
        Due.is(-9999L * 400000 / (800000 - 1007), x.field(1, 1, 401007), "half way");
    }

    private static void misfitAndIron() {
        NeedleCharts x = new NeedleCharts();
        x.epoch(0);
        x.number(0, 0, 100);
        x.reading(0, 4, 0, 0, 40, 0);
        x.reading(1, 4, 0, 0, 40, 3);
        x.reading(1, 4, 0, 0, 40, 4);
        Due.is(1, x.iron(4, 3, -1800), "iron");
        Due.is(0, x.iron(4, 3, -1800), "the same");
        Due.is(1, x.iron(4, 0, 7), "iron of another heading");
        Due.is(-60, x.misfit(0), "a reading has no iron");
        Due.is(-60 + 1800, x.misfit(1), "a ship has");
        Due.is(-60, x.misfit(2), "another heading");
        Due.is(0, x.iron(9, 7, 0), "it was 0");
        Due.is(1, x.iron(9, 7, 1800), "another");
        int[][] wrong = {{-1, 0, 0}, {10, 0, 0}, {0, -1, 0}, {0, 8, 0}, {0, 0, 1801}, {0, 0, -1801}};
        for (int[] w : wrong) {
            Due.is(-1, x.iron(w[0], w[1], w[2]), "iron " + w[0] + " " + w[1] + " " + w[2]);
        }
        Due.illegal(() -> x.misfit(3), "misfit of none");
        Due.illegal(() -> x.misfit(-1), "misfit of -1");
    }

    private static void costs() {
        NeedleCharts x = new NeedleCharts();
        Due.is(0, x.cost(0), "nothing costs nothing");
        x.reading(0, 0, 0, 0, 10, 0);
        Due.is(800, x.cost(0), "8 times 100");
        x.reading(5, 0, 0, 0, 1000, 0);
        Due.is(800, x.cost(0), "copied ones cost nothing");
        x.set(2, 3);
        x.epoch(0);
        x.number(0, 0, 4);
        Due.is(8 * 36, x.cost(0), "one epoch is smooth");
        x.epoch(9);
        x.number(1, 0, -1);
        x.number(1, 3, 2);
        Due.is(8 * 36 + 3 * (25 + 4), x.cost(0), "two are not");
        x.epoch(10);
        Due.is(8 * 36 + 3 * (25 + 4 + 1 + 4), x.cost(0), "three: each with the next one");
        Due.is(-1, x.cost(1), "above the edition");
        Due.is(-1, x.cost(-1), "below 0");
        NeedleCharts far = new NeedleCharts();
        far.epoch(0);
        for (int which = 0; which < 4; which++) {
            far.number(0, which, 9999);
        }
        far.reading(3, 0, 647, 0, -1800, 0);
        long misfit = -1800 - (9999 + 34996 + 16998 + 59494);
        Due.is(16 * misfit * misfit, far.cost(0), "beyond 32 bits");
    }

    private static void costByEditions() {
        NeedleCharts x = new NeedleCharts();
        x.reading(0, 0, 0, 0, 1, 0);
        x.edition(2);
        x.reading(0, 0, 0, 0, 10, 0);
        Due.rule(x, "g:1");
        x.edition(3);
        Due.is(8, x.cost(0), "by 0");
        Due.is(8, x.cost(1), "by 1");
        Due.is(101, x.cost(2), "by 2");
        Due.is(101, x.cost(3), "by 3");
    }

    private static void solveSettles() {
        NeedleCharts x = new NeedleCharts();
        Due.is(-1, x.solve(0), "0 rounds");
        Due.is(-1, x.solve(61), "61 rounds");
        Due.is(-3, x.solve(60), "no epoch");
        x.epoch(0);
        Due.is(101, x.solve(1), "nothing to do is settled at once");
        x.reading(0, 0, 0, 0, 3, 0);
        Due.is(104, x.solve(60), "three steps, and a round in which nothing changes");
        Due.is(3, x.told(0, 0), "c0");
        Due.is(0, x.cost(0), "it fits");
        x.reading(0, 0, 0, 0, 4, 0);
        Due.is(101, x.solve(60), "3 and 4 cost the same: it stays");
        Due.is(3, x.told(0, 0), "c0");
    }

    private static void solveRounds() {
        NeedleCharts x = new NeedleCharts();
        x.epoch(0);
        x.reading(0, 0, 0, 0, -5, 0);
        Due.is(2, x.solve(2), "so many as told");
        Due.is(-2, x.told(0, 0), "two steps down");
        Due.is(3, x.solve(3), "the rest of them");
        Due.is(-5, x.told(0, 0), "five steps down");
        Due.is(101, x.solve(3), "settled");
        x.edition(1);
        Due.rule(x, "k:1");
        x.number(0, 0, 0);
        Due.is(101, x.solve(3), "by the edition the reading is struck");
    }

    private static void solveAtItsEnds() {
        NeedleCharts x = new NeedleCharts();
        x.epoch(0);
        x.number(0, 0, 9999);
        x.number(0, 1, -9999);
        x.reading(0, 0, 18 * 10, 0, 1799, 0);
        // at x 10 both count alike; less costs more, and more is beyond the end of c0
        Due.is(1, x.solve(1), "a round");
        Due.is(9999, x.told(0, 0), "c0 stays within its numbers");
        Due.is(-9998, x.told(0, 1), "c1 goes up");
        x.number(0, 0, -9999);
        x.number(0, 1, 9999);
        x.reading(3, 0, 18 * 10, 0, -1800, 0);
        Due.is(1, x.solve(1), "a round");
        Due.is(-9999, x.told(0, 0), "c0 stays within its numbers");
        Due.is(9998, x.told(0, 1), "c1 goes down");
    }

    private static void solveSmooths() {
        NeedleCharts x = new NeedleCharts();
        x.set(2, 1);
        x.epoch(0);
        x.epoch(10);
        x.epoch(20);
        x.number(1, 2, 3);
        Due.is(18, x.cost(0), "3 from either side");
        Due.is(1, x.solve(1), "a round");
        Due.is(1, x.told(0, 2), "the first comes nearer");
        Due.is(2, x.told(1, 2), "then the second one");
        Due.is(1, x.told(2, 2), "then the third one");
        Due.is(102, x.solve(60), "one round more, and one in which nothing changes");
        Due.is(0, x.cost(0), "all alike");
        // both ways cost the same and less than now: 1 more
        NeedleCharts y = new NeedleCharts();
        y.epoch(0);
        y.epoch(4);
        y.number(1, 0, 5);
        y.reading(0, 0, 0, 0, 1, 0);
        Due.is(2, y.solve(1) + 1, "a round");
        Due.is(1, y.told(0, 0), "up to its reading");
        Due.is(5, y.told(1, 0), "no reading tells of this one");
    }

    private static void solveGoesUpIfBothAreOne() {
        // by c1 4 the field is 0 at x 2 and 2 at x 5, by 5 it is 1 and 2, by 3 it is 0 and 1
        NeedleCharts x = new NeedleCharts();
        x.epoch(0);
        x.number(0, 1, 4);
        x.reading(0, 0, 18 * 2, 0, 1, 0);
        x.reading(0, 0, 18 * 5, 0, 1, 0);
        Due.is(16, x.cost(0), "each is off by 1");
        Due.is(102, x.solve(60), "a step, then none");
        Due.is(8, x.cost(0), "one is off by 1");
        Due.is(5, x.told(0, 1), "1 more");
    }

    private static void solveAtEveryPlace() {
        NeedleCharts x = new NeedleCharts();
        x.epoch(100);
        x.epoch(200);
        x.number(0, 2, 40);
        Due.rule(x, "g:1");
        x.reading(0, 0, 18 * 3 + 10, 150, 22, 0);
        // 40 by the first, 0 by the second one: 20 between. c0 of the first 1 more: 41 less 20 (cut) is 21;
        // then c1 1 more is nothing (3 by 10), c2 1 more is 42 less 21, c3 1 more is nothing (30 by 100);
        // and 1 by the second one is 41 less 20, too: nothing comes nearer
        Due.is(102, x.solve(60), "a step, then none");
        long[] first = {1, 0, 40, 0};
        for (int which = 0; which < 4; which++) {
            Due.is(first[which], x.told(0, which), "number " + which + " of the first");
            Due.is(0, x.told(1, which), "number " + which + " of the second");
        }
        Due.is(1, x.misfit(0), "nearer by one");
    }

    private static void adjusts() {
        NeedleCharts x = new NeedleCharts();
        x.epoch(0);
        x.number(0, 0, 10);
        x.iron(2, 5, 99);
        Due.is(0, x.adjust(2, 5), "0 without any");
        Due.is(1, x.iron(2, 5, 99), "and it was 0");
        x.reading(1, 2, 0, 0, 3, 5);
        x.reading(1, 2, 0, 0, 2, 5);
        x.reading(1, 2, 0, 0, 900, 4);
        x.reading(1, 3, 0, 0, 900, 5);
        x.reading(0, 2, 0, 0, 900, 0);
        Due.is(-7, x.adjust(2, 5), "-7 and -8, cut");
        Due.is(3 + 7 - 10, x.misfit(0), "it is iron then");
        Due.is(-7, x.adjust(2, 5), "iron has no part in it");
        Due.rule(x, "k:3-v");
        Due.is(-7, x.adjust(2, 5), "the other one is struck");
        Due.rule(x, "k:v-2");
        Due.is(-8, x.adjust(2, 5), "this one is struck");
        Due.rule(x, "k:0");
        Due.rule(x, "g:v-2");
        Due.is(-7, x.adjust(2, 5), "a weight of 1 is above 0, one of 0 is not");
        x.reading(1, 0, 0, 0, 100, 0);
        Due.is(90, x.adjust(0, 0), "source 0, heading 0");
        Due.is(0, x.misfit(5), "it is iron then");
        for (int which = 0; which < 4; which++) {
            x.number(0, which, 9999);
        }
        Due.is(-1800, x.adjust(2, 5), "-1800 at least");
        x.number(0, 0, -9999);
        Due.is(1800, x.adjust(2, 5), "1800 at most");
        int[][] wrong = {{-1, 0}, {10, 0}, {0, -1}, {0, 8}};
        for (int[] w : wrong) {
            Due.illegal(() -> x.adjust(w[0], w[1]), "adjust " + w[0] + " " + w[1]);
        }
    }
}

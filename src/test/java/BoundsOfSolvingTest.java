/** Promises 27 and 28 and what the terms say of COST and SOLVING: a test for each sentence with a boundary. */
public final class BoundsOfSolvingTest {
    private static final int MIN = Integer.MIN_VALUE;
    private static final int MAX = Integer.MAX_VALUE;

    public static void main(String[] args) {
        costIsByEditions();
        costOfNothing();
        costOfReadingsKnown();
        costIsWeightTimesMisfitSquared();
        costIsBeyondIntegers();
        smoothIsBetweenNeighbours();
        smoothFrom0To1000();
        solveHasItsEnds();
        solveNeedsAnEpoch();
        refusedSolvesChangeNothing();
        settledInTheFirstRound();
        settledInTheLastRound();
        notSettled();
        theLesserOneIfBelow();
        oneMoreIfBothAreOne();
        withinTheEndsOfNumbers();
        epochByEpochNumberByNumber();
        placesHaveTheirPart();
        readingsBetweenEpochs();
        smoothPulls();
        solvingIsByTheEdition();
        theLeastWeightCounts();
        solvingIsOfWhatWeighsNow();
        solvingOfEightyReadings();
        solvingCountsIron();
        Due.end("BoundsOfSolvingTest");
    }

    private static void costIsByEditions() {
        Due.says("27: by an EDITION. -1 (above the EDITION)");
        NeedleCharts x = new NeedleCharts();
        for (int none : new int[] {-1, 1, 60, 61, MIN, MAX}) {
            Due.is(-1, x.cost(none), "cost " + none);
        }
        x.edition(60);
        for (int e = 0; e <= 60; e++) {
            Due.is(0, x.cost(e), "cost " + e);
        }
        Due.is(-1, x.cost(61), "cost 61");
        Due.is(-1, x.cost(-1), "cost -1");
    }

    private static void costOfNothing() {
        Due.says("27: without READINGS and EPOCHS");
        NeedleCharts x = new NeedleCharts();
        x.set(2, 1000);
        Due.is(0, x.cost(0), "nothing");
        x.epoch(0);
        x.number(0, 0, 9999);
        Due.is(0, x.cost(0), "one EPOCH is next to none");
    }

    private static void costOfReadingsKnown() {
        Due.says("each READING known by e");
        NeedleCharts x = new NeedleCharts();
        x.reading(0, 0, 0, 0, 1, 0);
        x.edition(1);
        x.reading(0, 0, 0, 0, 10, 0);
        x.edition(60);
        x.reading(0, 0, 0, 0, 100, 0);
        Due.is(8, x.cost(0), "by 0");
        Due.is(808, x.cost(1), "by 1");
        Due.is(808, x.cost(59), "by 59");
        Due.is(80808, x.cost(60), "by 60");
    }

    private static void costIsWeightTimesMisfitSquared() {
        Due.says("WEIGHT times MISFIT times MISFIT");
        int[] weights = {8, 4, 6, 16, 4, 0};
        for (int kind = 0; kind <= 5; kind++) {
            NeedleCharts x = new NeedleCharts();
            x.reading(kind, 0, 0, 0, 30, 0);
            Due.is(900 * weights[kind], x.cost(0), "kind " + kind);
            x.epoch(0);
            x.number(0, 0, 37);
            Due.is(49 * weights[kind], x.cost(0), "kind " + kind + " below the FIELD");
            Due.rule(x, "g:100");
            Due.is(4900, x.cost(0), "by a RULE, kind " + kind);
            Due.rule(x, "k:1");
            Due.is(0, x.cost(0), "struck, kind " + kind);
        }
        NeedleCharts ship = new NeedleCharts();
        ship.reading(1, 6, 0, 0, 30, 6);
        ship.iron(6, 6, 29);
        Due.is(4, ship.cost(0), "a SHIP less its IRON");
    }

    private static void costIsBeyondIntegers() {
        Due.says("27: a long");
        NeedleCharts x = new NeedleCharts();
        x.epoch(0);
        for (int which = 0; which < 4; which++) {
            x.number(0, which, 9999);
        }
        Due.rule(x, "g:100");
        long misfit = -1800 - (9999 + 34996 + 16998 + 59494);
        for (int i = 1; i <= 80; i++) {
            x.reading(5, 0, 647, 0, -1800, 0);
        }
        Due.is(80 * 100 * misfit * misfit, x.cost(0), "the most of READINGS");
        NeedleCharts y = new NeedleCharts();
        y.set(2, 1000);
        for (int epoch = 0; epoch < 4; epoch++) {
            y.epoch(epoch);
            for (int which = 0; which < 4; which++) {
                y.number(epoch, which, epoch % 2 == 0 ? 9999 : -9999);
            }
        }
        Due.is(1000L * 12 * 19998 * 19998, y.cost(0), "the most of SMOOTH");
    }

    private static void smoothIsBetweenNeighbours() {
        Due.says("SMOOTH times the square of how far each NUMBER of an EPOCH is from that of the next one");
        NeedleCharts x = new NeedleCharts();
        x.set(2, 1);
        for (int epoch = 0; epoch < 4; epoch++) {
            x.epoch(epoch);
        }
        for (int which = 0; which < 4; which++) {
            x.number(0, which, 1);
            Due.is(1, x.cost(0), "of the first, with one behind it: " + which);
            x.number(0, which, 0);
            x.number(1, which, -2);
            Due.is(8, x.cost(0), "of the second, with one on either side: " + which);
            x.number(1, which, 0);
            x.number(3, which, 3);
            Due.is(9, x.cost(0), "of the last, with one ahead of it: " + which);
            x.number(3, which, 0);
        }
        x.number(0, 3, 5);
        x.number(1, 0, 5);
        Due.is(25 + 25 + 25, x.cost(0), "NUMBERS of unlike sorts are not compared");
    }

    private static void smoothFrom0To1000() {
        Due.says("SMOOTH (0 .. 1000)");
        NeedleCharts x = new NeedleCharts();
        x.epoch(0);
        x.epoch(1);
        x.number(1, 0, 3);
        Due.is(0, x.cost(0), "0 at first");
        x.set(2, 1000);
        Due.is(9000, x.cost(0), "1000");
        x.set(2, 1001);
        Due.is(9000, x.cost(0), "not 1001");
        x.set(2, 0);
        Due.is(0, x.cost(0), "0");
    }

    private static void solveHasItsEnds() {
        Due.says("28: so many ROUNDS at most (1 .. 60); -1");
        NeedleCharts x = new NeedleCharts();
        for (int none : new int[] {0, -1, 61, 62, MIN, MAX}) {
            Due.is(-1, x.solve(none), "solve " + none);
        }
        x.epoch(0);
        for (int none : new int[] {0, -1, 61, 62, MIN, MAX}) {
            Due.is(-1, x.solve(none), "solve " + none);
        }
        Due.is(101, x.solve(1), "solve 1");
        Due.is(101, x.solve(60), "solve 60");
    }

    private static void solveNeedsAnEpoch() {
        Due.says("28: -3: no EPOCH");
        NeedleCharts x = new NeedleCharts();
        Due.is(-3, x.solve(1), "solve 1");
        Due.is(-3, x.solve(60), "solve 60");
        Due.is(-1, x.solve(0), "-1 is ahead of -3");
        Due.is(-1, x.solve(61), "-1 is ahead of -3");
        x.reading(0, 0, 0, 0, 50, 0);
        Due.is(-3, x.solve(5), "READINGS alone are none");
    }

    private static NeedleCharts wanting(int value) {
        NeedleCharts x = new NeedleCharts();
        x.epoch(0);
        x.reading(0, 0, 0, 0, value, 0);
        return x;
    }

    private static void refusedSolvesChangeNothing() {
        Due.says("28: a refused call changes nothing");
        NeedleCharts x = wanting(5);
        x.solve(0);
        x.solve(61);
        Due.is(0, x.told(0, 0), "told");
    }

    private static void settledInTheFirstRound() {
        Due.says("28: how many ROUNDS there were (the last one, too); 100 more, if it SETTLED");
        Due.is(101, wanting(0).solve(1), "nothing to change, of 1");
        Due.is(101, wanting(0).solve(60), "nothing to change, of 60");
    }

    private static void settledInTheLastRound() {
        Due.says("it ends behind a ROUND in which nothing changed");
        for (int value : new int[] {1, 2, 30, 58, 59}) {
            Due.is(101 + value, wanting(value).solve(60), value + " steps up");
            Due.is(101 + value, wanting(-value).solve(60), value + " steps down");
            Due.is(101 + value, wanting(value).solve(value + 1), value + " steps and the last ROUND");
            NeedleCharts x = wanting(value);
            x.solve(60);
            Due.is(value, x.told(0, 0), "there");
        }
    }

    private static void notSettled() {
        Due.says("or behind so many as told (SETTLED or not)");
        for (int value : new int[] {1, 2, 30, 60, 61, 1799}) {
            int rounds = Math.min(60, value);
            NeedleCharts x = wanting(value);
            Due.is(rounds, x.solve(rounds), rounds + " ROUNDS for " + value);
            Due.is(rounds, x.told(0, 0), "as far as they go");
            NeedleCharts down = wanting(-value);
            Due.is(1, down.solve(1), "1 ROUND for -" + value);
            Due.is(-1, down.told(0, 0), "one step");
        }
    }

    private static void theLesserOneIfBelow() {
        Due.says("the lesser one, if it is below COST as it is");
        NeedleCharts x = wanting(3);
        x.reading(0, 0, 0, 0, 4, 0);
        x.number(0, 0, 3);
        Due.is(101, x.solve(9), "1 more costs as much: it stays");
        x.number(0, 0, 4);
        Due.is(101, x.solve(9), "1 less costs as much: it stays");
        x.number(0, 0, 9);
        Due.is(106, x.solve(9), "5 less");
        Due.is(4, x.told(0, 0), "down to 4");
        x.number(0, 0, -1);
        Due.is(105, x.solve(9), "4 more");
        Due.is(3, x.told(0, 0), "up to 3");
    }

    private static void oneMoreIfBothAreOne() {
        Due.says("1 more, if both are one");
        // c1 times x by 10: 4 gives 0 at x 2 and 2 at x 5; 5 gives 1 and 2; 3 gives 0 and 1: both ways cost 8, as it is 16
        NeedleCharts x = new NeedleCharts();
        x.epoch(0);
        x.number(0, 1, 4);
        x.reading(0, 0, 18 * 2, 0, 1, 0);
        x.reading(0, 0, 18 * 5, 0, 1, 0);
        Due.is(1, x.solve(1), "a ROUND");
        Due.is(5, x.told(0, 1), "1 more");
        // the same below 0: -4 gives 0 and -2, -5 gives -1 and -2, -3 gives 0 and -1
        NeedleCharts y = new NeedleCharts();
        y.epoch(0);
        y.number(0, 1, -4);
        y.reading(0, 0, 18 * 2, 0, -1, 0);
        y.reading(0, 0, 18 * 5, 0, -1, 0);
        Due.is(1, y.solve(1), "a ROUND");
        Due.is(-3, y.told(0, 1), "1 more");
    }

    private static void withinTheEndsOfNumbers() {
        Due.says("within -9999 .. 9999");
        // at x 10 the FIELD is c0 and c1: the readings want more of both, and less of both
        NeedleCharts x = new NeedleCharts();
        x.epoch(0);
        x.number(0, 0, 9999);
        x.number(0, 1, -9999);
        x.reading(0, 0, 18 * 10, 0, 1799, 0);
        Due.is(1, x.solve(1), "a ROUND");
        Due.is(9999, x.told(0, 0), "no more than 9999");
        Due.is(-9998, x.told(0, 1), "the other one goes up");
        x.number(0, 0, 9998);
        Due.is(2, x.solve(2), "two ROUNDS");
        Due.is(9999, x.told(0, 0), "up to 9999");
        NeedleCharts y = new NeedleCharts();
        y.epoch(0);
        y.number(0, 0, -9999);
        y.number(0, 1, 9999);
        y.reading(0, 0, 18 * 10, 0, -1800, 0);
        Due.is(1, y.solve(1), "a ROUND");
        Due.is(-9999, y.told(0, 0), "no less than -9999");
        Due.is(9998, y.told(0, 1), "the other one goes down");
        y.number(0, 0, -9998);
        Due.is(2, y.solve(2), "two ROUNDS");
        Due.is(-9999, y.told(0, 0), "down to -9999");
        // all at their ends: the FIELD is 0 and 1 wanted, but none can go there
        NeedleCharts z = new NeedleCharts();
        z.epoch(0);
        z.number(0, 0, 9999);
        z.reading(0, 0, 0, 0, 1799, 0);
        Due.is(1, z.solve(1), "a ROUND");
        Due.is(9998, z.told(0, 0), "from its end a NUMBER goes back");
    }

    private static void epochByEpochNumberByNumber() {
        Due.says("ROUNDS: EPOCH by EPOCH, NUMBER by NUMBER; then it stays so");
        // at 10, 10 c0, c1 and c2 each move the FIELD by their step, c3 too: 4 wanted is 1 of each
        NeedleCharts x = new NeedleCharts();
        x.epoch(0);
        x.reading(0, 0, 18 * 10 + 10, 0, 4, 0);
        Due.is(102, x.solve(60), "a ROUND and one in which nothing changed");
        for (int which = 0; which < 4; which++) {
            Due.is(1, x.told(0, which), "NUMBER " + which);
        }
        NeedleCharts y = new NeedleCharts();
        y.epoch(0);
        y.reading(0, 0, 18 * 10 + 10, 0, 3, 0);
        Due.is(102, y.solve(60), "a ROUND and one in which nothing changed");
        int[] due = {1, 1, 1, 0};
        for (int which = 0; which < 4; which++) {
            Due.is(due[which], y.told(0, which), "NUMBER " + which + " in its order");
        }
        // half way between two EPOCHS a step of either is half a step, cut
        NeedleCharts z = new NeedleCharts();
        z.epoch(0);
        z.epoch(2);
        z.reading(0, 0, 0, 1, 1, 0);
        Due.is(102, z.solve(60), "a ROUND and one in which nothing changed");
        Due.is(1, z.told(0, 0), "the first EPOCH: 1 less a half, cut, is 1");
        Due.is(0, z.told(1, 0), "the second one need not");
    }

    private static void placesHaveTheirPart() {
        Due.says("VALUE of an EPOCH at x, y");
        NeedleCharts x = new NeedleCharts();
        x.epoch(0);
        x.reading(0, 0, 10, 0, 3, 0);
        Due.is(103, x.solve(60), "at 0, 10");
        int[] atTen = {2, 0, 1, 0};
        for (int which = 0; which < 4; which++) {
            Due.is(atTen[which], x.told(0, which), "NUMBER " + which + " at 0, 10");
        }
        NeedleCharts y = new NeedleCharts();
        y.epoch(0);
        y.reading(0, 0, 18 * 10, 0, 3, 0);
        Due.is(103, y.solve(60), "at 10, 0");
        int[] atEast = {2, 1, 0, 0};
        for (int which = 0; which < 4; which++) {
            Due.is(atEast[which], y.told(0, which), "NUMBER " + which + " at 10, 0");
        }
    }

    private static void readingsBetweenEpochs() {
        Due.says("READINGS ahead, between and behind");
        NeedleCharts x = new NeedleCharts();
        x.epoch(100);
        x.epoch(200);
        x.epoch(300);
        x.reading(0, 0, 0, 99, 2, 0);
        x.reading(0, 0, 0, 301, -3, 0);
        Due.is(104, x.solve(60), "three ROUNDS and the last");
        Due.is(2, x.told(0, 0), "the first is moved by what is ahead of it");
        Due.is(0, x.told(1, 0), "the second by nothing");
        Due.is(-3, x.told(2, 0), "the third by what is behind it");
        NeedleCharts y = new NeedleCharts();
        y.epoch(100);
        y.epoch(200);
        y.reading(0, 0, 0, 100, 2, 0);
        y.reading(0, 0, 0, 200, -2, 0);
        Due.is(103, y.solve(60), "two ROUNDS and the last");
        Due.is(2, y.told(0, 0), "on the DAY of the first");
        Due.is(-2, y.told(1, 0), "on the DAY of the second");
    }

    private static void smoothPulls() {
        Due.says("COST: SMOOTH, too");
        NeedleCharts x = new NeedleCharts();
        x.set(2, 1000);
        for (int epoch = 0; epoch < 4; epoch++) {
            x.epoch(epoch);
            x.number(epoch, 0, 10 * epoch);
        }
        // 0 10 20 30: the first comes up, the last comes down, those between stay as near to both
        Due.is(1, x.solve(1), "a ROUND");
        Due.is(1, x.told(0, 0), "up");
        Due.is(29, x.told(3, 0), "down");
        Due.is(10, x.told(1, 0), "9 from the one and 10 from the other: 1 more costs as much, so that it stays");
        Due.is(20, x.told(2, 0), "it stays");
        NeedleCharts y = wanting(5);
        y.set(2, 9);
        y.epoch(1);
        y.reading(5, 0, 0, 1, 0, 0);
        Due.is(105, y.solve(60), "four ROUNDS and the last");
        Due.is(4, y.told(0, 0), "at 4 the READING costs 8 and a step costs 9");
        Due.is(4, y.told(1, 0), "the other one follows for the sake of SMOOTH alone");
        y.set(2, 8);
        Due.is(101, y.solve(60), "a step that costs as much is none");
        y.set(2, 7);
        Due.is(102, y.solve(60), "one that costs less is");
        Due.is(5, y.told(1, 0), "and the other one follows");
    }

    private static void solvingIsByTheEdition() {
        Due.says("28: SOLVING by the EDITION");
        NeedleCharts x = wanting(3);
        x.edition(1);
        Due.rule(x, "g:0");
        Due.is(101, x.solve(60), "no WEIGHT by the EDITION");
        x.edition(2);
        x.strike(0);
        Due.is(104, x.solve(60), "WEIGHT by the EDITION");
        x.reading(0, 0, 0, 0, 0, 0);
        x.reading(0, 0, 0, 0, 0, 0);
        x.edition(3);
        Due.is(103, x.solve(60), "two steps back: 1 and 2 of three are nearest at 1");
        Due.is(1, x.told(0, 0), "told");
    }

    private static void theLeastWeightCounts() {
        Due.says("WEIGHT of 1, the least that is above 0");
        NeedleCharts x = wanting(3);
        Due.rule(x, "g:1");
        Due.is(9, x.cost(0), "9 times 1");
        Due.is(104, x.solve(60), "three steps");
        Due.is(0, x.cost(0), "it fits");
        NeedleCharts y = wanting(3);
        y.reading(0, 1, 0, 0, -3, 0);
        Due.rule(y, "g:s");
        Due.is(9, y.cost(0), "the one of WEIGHT 0 costs nothing");
        Due.is(104, y.solve(60), "three steps");
        Due.is(-3, y.told(0, 0), "toward the one of WEIGHT 1");
        NeedleCharts z = wanting(5);
        z.reading(3, 1, 0, 0, 0, 0);
        Due.rule(z, "g:100-99*s");
        Due.is(2500, z.cost(0), "100 at most");
        Due.is(106, z.solve(60), "five steps: 100 to 1");
    }

    private static void solvingIsOfWhatWeighsNow() {
        Due.says("28: READINGS that weighed in an earlier SOLVING and do no more");
        NeedleCharts x = wanting(3);
        x.reading(0, 1, 0, 0, 3, 0);
        Due.is(104, x.solve(60), "both");
        x.number(0, 0, 0);
        Due.rule(x, "k:s");
        Due.rule(x, "g:0-3+v");
        x.reading(0, 0, 0, 0, 5, 0);
        Due.is(106, x.solve(60), "the third alone");
        Due.rule(x, "k:1");
        x.number(0, 0, 0);
        Due.is(101, x.solve(60), "none");
        Due.is(0, x.told(0, 0), "it stays");
    }

    private static void solvingOfEightyReadings() {
        Due.says("READINGS 0 .. 79: all of them");
        for (int last : new int[] {0, 40, 79}) {
            NeedleCharts x = new NeedleCharts();
            x.epoch(0);
            Due.rule(x, "g:v?100:1");
            for (int i = 0; i < 80; i++) {
                x.reading(0, 0, 0, 0, i == last ? 1 : 0, 0);
            }
            Due.is(100, x.cost(0), "the one at " + last);
            Due.is(102, x.solve(60), "100 weighs more than 79");
            Due.is(79, x.cost(0), "the others");
        }
    }

    private static void solvingCountsIron() {
        Due.says("MISFIT: a SHIP's VALUE less IRON");
        NeedleCharts x = new NeedleCharts();
        x.epoch(0);
        x.reading(1, 7, 0, 0, 10, 4);
        x.iron(7, 4, 12);
        Due.is(103, x.solve(60), "two steps");
        Due.is(-2, x.told(0, 0), "down");
    }
}

/** Promises 17 to 21 and what the terms say of VOYAGES: a test for each sentence that names a boundary. */
public final class BoundsOfVoyagesTest {
    private static final int MIN = Integer.MIN_VALUE;
    private static final int MAX = Integer.MAX_VALUE;

    public static void main(String[] args) {
        voyagesAre0To5();
        voyagesBeginAtPlaces();
        legsGoNineAtMost();
        legsAre30AtMost();
        sightsAreAtPlaces();
        refusalsHaveTheirOrder();
        refusedCallsChangeNothing();
        closedHasItsEnds();
        whereItBegan();
        placesMayBeOffTheChart();
        reckonedBehindTheLastSight();
        oneLegBetweenSights();
        noLegBetweenSights();
        partsAreCut();
        closingOfTheLongestVoyage();
        whatIsClosedStaysSo();
        spansSinceTheLastSight();
        spansBetweenSights();
        shiftRefuses();
        shiftGoesNineAtMost();
        shiftIsOfAllClosedPlaces();
        shiftStaysInTheChart();
        shiftIsTheLeast();
        shiftLeastEastThenNorth();
        Due.end("BoundsOfVoyagesTest");
    }

    private static int at(int x, int y) {
        return 1000 * (x + 500) + y + 500;
    }

    private static NeedleCharts begun(int x, int y) {
        NeedleCharts charts = new NeedleCharts();
        charts.voyage(x, y);
        return charts;
    }

    private static void voyagesAre0To5() {
        Due.says("VOYAGES 0 .. 5 as they come; 17: -2: there are 6");
        NeedleCharts x = new NeedleCharts();
        for (int i = 0; i <= 5; i++) {
            Due.is(-1, x.leg(i, 0, 0), "no VOYAGE " + i);
            Due.is(i, x.voyage(i, i), "voyage " + i);
            Due.is(i + 1, x.count(2), "VOYAGES");
        }
        Due.is(-2, x.voyage(0, 0), "one more");
        Due.is(6, x.count(2), "VOYAGES");
        for (int i = 0; i <= 5; i++) {
            Due.is(at(i, i), x.closed(i, -1, 0), "where VOYAGE " + i + " began");
            Due.is(1, x.leg(i, 1, i), "each has its own LEGS");
        }
        for (int i = 0; i <= 5; i++) {
            Due.is(at(i + 1, 2 * i), x.closed(i, 0, 0), "where VOYAGE " + i + " is");
        }
        for (int none : new int[] {-1, 6, MIN, MAX}) {
            Due.is(-1, x.leg(none, 0, 0), "leg of " + none);
            Due.is(-1, x.sight(none, 0, 0), "sight of " + none);
            Due.is(-1, x.closed(none, -1, 0), "closed of " + none);
            Due.is(-1, x.shift(none), "shift of " + none);
        }
    }

    private static final int[][] NO_PLACES = {
        {-1, 0}, {36, 0}, {0, -1}, {0, 18}, {MIN, 0}, {MAX, 0}, {0, MIN}, {0, MAX}, {17, 35}, {MIN, MAX},
    };

    private static void voyagesBeginAtPlaces() {
        Due.says("17: begins at a PLACE; -1");
        NeedleCharts x = new NeedleCharts();
        for (int[] p : NO_PLACES) {
            Due.is(-1, x.voyage(p[0], p[1]), "voyage " + p[0] + " " + p[1]);
        }
        Due.is(0, x.count(2), "a refused call changes nothing");
        int[][] corners = {{0, 0}, {35, 0}, {0, 17}, {35, 17}};
        for (int i = 0; i < 4; i++) {
            Due.is(i, x.voyage(corners[i][0], corners[i][1]), "corner " + i);
            Due.is(at(corners[i][0], corners[i][1]), x.closed(i, -1, 0), "corner " + i);
        }
        x.land(3, 3, 3, true);
        Due.is(4, x.voyage(3, 3), "on LAND");
    }

    private static void legsGoNineAtMost() {
        Due.says("18: east and north (-9 .. 9 each)");
        NeedleCharts x = begun(18, 9);
        for (int far : new int[] {-10, 10, MIN, MAX}) {
            Due.is(-1, x.leg(0, far, 0), "east " + far);
            Due.is(-1, x.leg(0, 0, far), "north " + far);
            Due.is(-1, x.leg(0, far, far), "both " + far);
        }
        Due.is(-1, x.closed(0, 0, 0), "a refused call changes nothing");
        int[][] legs = {{9, 9}, {-9, -9}, {9, -9}, {-9, 9}, {0, 0}};
        int[] due = {at(27, 18), at(18, 9), at(27, 0), at(18, 9), at(18, 9)};
        for (int i = 0; i < legs.length; i++) {
            Due.is(i + 1, x.leg(0, legs[i][0], legs[i][1]), "leg " + i);
            Due.is(due[i], x.closed(0, i, 0), "behind leg " + i);
        }
    }

    private static void legsAre30AtMost() {
        Due.says("LEGS, 30 at most; 18, 19: how many LEGS (SIGHTS, too); -2");
        NeedleCharts x = begun(1, 1);
        for (int i = 1; i <= 30; i++) {
            Due.is(i, x.leg(0, 0, 1), "leg " + i);
        }
        Due.is(-2, x.leg(0, 0, 1), "a leg more");
        Due.is(-2, x.sight(0, 0, 1), "a sight more");
        Due.is(at(1, 31), x.closed(0, 29, 0), "a refused call changes nothing");
        Due.is(-1, x.closed(0, 30, 0), "there is no leg more");
        NeedleCharts y = begun(1, 1);
        for (int i = 1; i <= 30; i++) {
            Due.is(i, y.sight(0, i, 2), "sight " + i);
        }
        Due.is(-2, y.sight(0, 0, 1), "a sight more");
        Due.is(-2, y.leg(0, 0, 1), "a leg more");
        Due.is(at(30, 2), y.closed(0, 29, 0), "a refused call changes nothing");
        NeedleCharts z = begun(1, 1);
        for (int i = 1; i <= 30; i++) {
            Due.is(i, i % 2 == 0 ? z.sight(0, 5, 5) : z.leg(0, 1, 1), "both, " + i);
        }
        Due.is(-2, z.leg(0, 0, 1), "a leg more");
        z.voyage(2, 2);
        Due.is(1, z.leg(1, 0, 1), "another VOYAGE has room");
    }

    private static void sightsAreAtPlaces() {
        Due.says("19: at a PLACE; -1");
        NeedleCharts x = begun(1, 1);
        for (int[] p : NO_PLACES) {
            Due.is(-1, x.sight(0, p[0], p[1]), "sight " + p[0] + " " + p[1]);
        }
        Due.is(-1, x.closed(0, 0, 0), "a refused call changes nothing");
        int[][] corners = {{0, 0}, {35, 0}, {0, 17}, {35, 17}};
        for (int i = 0; i < 4; i++) {
            Due.is(i + 1, x.sight(0, corners[i][0], corners[i][1]), "corner " + i);
            Due.is(at(corners[i][0], corners[i][1]), x.closed(0, i, 0), "corner " + i);
            Due.is(0, x.closed(0, i, 1), "a SIGHT has no SPAN");
        }
    }

    private static void refusalsHaveTheirOrder() {
        Due.says("17 to 19: -1 is ahead of -2");
        NeedleCharts x = begun(0, 0);
        for (int i = 1; i < 6; i++) {
            x.voyage(0, 0);
        }
        for (int i = 0; i < 30; i++) {
            x.leg(0, 0, 0);
        }
        for (int[] p : NO_PLACES) {
            Due.is(-1, x.voyage(p[0], p[1]), "voyage " + p[0] + " " + p[1]);
            Due.is(-1, x.sight(0, p[0], p[1]), "sight " + p[0] + " " + p[1]);
        }
        Due.is(-1, x.leg(0, 10, 0), "leg 10 0");
        Due.is(-1, x.leg(0, 0, -10), "leg 0 -10");
        Due.is(-1, x.leg(6, 0, 0), "leg of no VOYAGE");
    }

    private static void refusedCallsChangeNothing() {
        Due.says("18, 19: a refused call changes nothing");
        NeedleCharts x = begun(5, 5);
        x.leg(0, 2, 0);
        x.sight(0, 36, 5);
        x.leg(0, 10, 10);
        Due.is(1, x.closed(0, 0, 1), "no SIGHT came");
        Due.is(2, x.leg(0, 2, 0), "the next LEG");
        Due.is(at(9, 5), x.closed(0, 1, 0), "goes on from the first");
        Due.is(3, x.sight(0, 9, 7), "the SIGHT");
        Due.is(at(7, 6), x.closed(0, 0, 0), "closes two LEGS");
    }

    private static void closedHasItsEnds() {
        Due.says("20: LEG i (-1: where it began); what 0, 1; -1");
        NeedleCharts x = begun(5, 5);
        x.leg(0, 1, 1);
        x.leg(0, 1, 1);
        for (int i : new int[] {-2, 2, 3, 29, 30, 31, MIN, MAX}) {
            Due.is(-1, x.closed(0, i, 0), "LEG " + i);
            Due.is(-1, x.closed(0, i, 1), "SPAN of LEG " + i);
        }
        for (int what : new int[] {-1, 2, MIN, MAX}) {
            Due.is(-1, x.closed(0, 0, what), "what " + what);
            Due.is(-1, x.closed(0, -1, what), "what " + what);
        }
        Due.is(at(5, 5), x.closed(0, -1, 0), "where it began");
        Due.is(at(6, 6), x.closed(0, 0, 0), "LEG 0");
        Due.is(at(7, 7), x.closed(0, 1, 0), "LEG 1");
    }

    private static void whereItBegan() {
        Due.says("20: -1: where it began");
        NeedleCharts x = begun(7, 8);
        Due.is(at(7, 8), x.closed(0, -1, 0), "without LEGS");
        Due.is(0, x.closed(0, -1, 1), "it begins at a SIGHT");
        Due.is(-1, x.closed(0, 0, 0), "no LEG 0");
        x.leg(0, 3, 3);
        x.sight(0, 20, 0);
        Due.is(at(7, 8), x.closed(0, -1, 0), "it stays where it is");
        Due.is(0, x.closed(0, -1, 1), "and a SIGHT");
    }

    private static void placesMayBeOffTheChart() {
        Due.says("20: 1000 times (x and 500), y and 500 (both may be off the chart)");
        NeedleCharts x = begun(0, 0);
        x.voyage(35, 17);
        for (int i = 0; i < 30; i++) {
            x.leg(0, -9, -9);
            x.leg(1, 9, 9);
        }
        Due.is(at(-9, -9), x.closed(0, 0, 0), "9 west and south");
        Due.is(1000 * 230 + 230, x.closed(0, 29, 0), "270 west and south");
        Due.is(1000 * 805 + 787, x.closed(1, 29, 0), "270 east and north");
    }

    private static void reckonedBehindTheLastSight() {
        Due.says("behind the last SIGHT it is as RECKONED");
        NeedleCharts x = begun(5, 5);
        x.leg(0, 4, -4);
        Due.is(at(9, 1), x.closed(0, 0, 0), "from where it began");
        x.sight(0, 20, 10);
        x.leg(0, 4, -4);
        x.leg(0, 0, 1);
        Due.is(at(24, 6), x.closed(0, 2, 0), "from the SIGHT");
        Due.is(at(24, 7), x.closed(0, 3, 0), "on from there");
    }

    private static void oneLegBetweenSights() {
        Due.says("n LEGS between (n 1 or more): 1");
        NeedleCharts x = begun(5, 5);
        x.leg(0, 4, 4);
        x.sight(0, 20, 1);
        Due.is(at(20, 1), x.closed(0, 0, 0), "it ends at the SIGHT");
        Due.is(0, x.closed(0, 0, 1), "which is no LEG off");
        Due.is(at(20, 1), x.closed(0, 1, 0), "the SIGHT");
    }

    private static void noLegBetweenSights() {
        Due.says("two SIGHTS next to each other without LEGS between");
        NeedleCharts x = begun(5, 5);
        x.sight(0, 9, 9);
        x.sight(0, 0, 17);
        Due.is(at(9, 9), x.closed(0, 0, 0), "the first");
        Due.is(at(0, 17), x.closed(0, 1, 0), "the second");
        Due.is(0, x.closed(0, 0, 1), "its SPAN");
        Due.is(0, x.closed(0, 1, 1), "its SPAN");
        x.leg(0, 1, -1);
        Due.is(at(1, 16), x.closed(0, 2, 0), "on from the second");
    }

    private static void partsAreCut() {
        Due.says("RECKONED less a times i by n, cut, and b times i by n, cut");
        int[] offs = {-5, -4, -3, -2, -1, 0, 1, 2, 3, 4, 5};
        for (int a : offs) {
            for (int b : offs) {
                NeedleCharts x = begun(10, 8);
                for (int i = 0; i < 3; i++) {
                    x.leg(0, 1, 0);
                }
                x.sight(0, 13 - a, 8 - b);
                for (int i = 1; i <= 3; i++) {
                    Due.is(at(10 + i - a * i / 3, 8 - b * i / 3), x.closed(0, i - 1, 0), "LEG " + i + ", off by " + a);
                }
            }
        }
        NeedleCharts x = begun(10, 8);
        x.leg(0, 0, 0);
        x.leg(0, 0, 0);
        x.sight(0, 11, 7);
        Due.is(at(10, 8), x.closed(0, 0, 0), "a half is cut toward 0, on both sides");
        Due.is(at(11, 7), x.closed(0, 1, 0), "a whole is not");
    }

    private static void closingOfTheLongestVoyage() {
        Due.says("29 LEGS and a SIGHT");
        NeedleCharts x = begun(0, 0);
        for (int i = 0; i < 29; i++) {
            x.leg(0, 9, 9);
        }
        Due.is(30, x.sight(0, 0, 0), "the thirtieth is a SIGHT");
        for (int i = 0; i < 29; i++) {
            Due.is(at(0, 0), x.closed(0, i, 0), "LEG " + i + " is 9 times so many too far");
            Due.is(Math.min(i + 1, 28 - i), x.closed(0, i, 1), "SPAN of LEG " + i);
        }
        NeedleCharts y = begun(0, 0);
        for (int i = 0; i < 29; i++) {
            y.leg(0, 9, -9);
        }
        y.sight(0, 35, 17);
        int a = 9 * 29 - 35;
        int b = -9 * 29 - 17;
        for (int i = 1; i <= 29; i++) {
            Due.is(at(9 * i - a * i / 29, -9 * i - b * i / 29), y.closed(0, i - 1, 0), "behind the " + i + "-th LEG");
        }
    }

    private static void whatIsClosedStaysSo() {
        Due.says("between two SIGHTS next to each other");
        NeedleCharts x = begun(0, 0);
        x.leg(0, 2, 2);
        x.leg(0, 2, 2);
        x.sight(0, 8, 4);
        x.leg(0, 1, 0);
        x.leg(0, 1, 0);
        x.sight(0, 20, 10);
        int[] due = {at(4, 2), at(8, 4), at(8, 4), at(14, 7), at(20, 10), at(20, 10)};
        for (int i = 0; i < due.length; i++) {
            Due.is(due[i], x.closed(0, i, 0), "behind LEG " + i);
        }
    }

    private static void spansSinceTheLastSight() {
        Due.says("a SPAN of 1 PLACE for each LEG since");
        NeedleCharts x = begun(0, 0);
        for (int i = 0; i < 30; i++) {
            x.leg(0, 0, 0);
            Due.is(i + 1, x.closed(0, i, 1), "SPAN of LEG " + i);
        }
        NeedleCharts y = begun(0, 0);
        y.leg(0, 0, 0);
        y.sight(0, 0, 0);
        y.leg(0, 0, 0);
        y.leg(0, 0, 0);
        int[] due = {0, 0, 1, 2};
        for (int i = 0; i < 4; i++) {
            Due.is(due[i], y.closed(0, i, 1), "SPAN of LEG " + i);
        }
    }

    private static void spansBetweenSights() {
        Due.says("between SIGHTS of the lesser number of LEGS to either");
        for (int n = 1; n <= 8; n++) {
            NeedleCharts x = begun(0, 0);
            x.sight(0, 0, 0);
            for (int i = 0; i < n; i++) {
                x.leg(0, 0, 0);
            }
            x.sight(0, 0, 0);
            for (int i = 1; i <= n; i++) {
                Due.is(Math.min(i, n - i), x.closed(0, i, 1), "the " + i + "-th of " + n);
            }
            Due.is(0, x.closed(0, n + 1, 1), "the SIGHT");
        }
    }

    private static void shiftRefuses() {
        Due.says("21: -4: none; -1");
        NeedleCharts x = new NeedleCharts();
        for (int none : new int[] {-1, 0, 5, 6, MIN, MAX}) {
            Due.is(-1, x.shift(none), "shift " + none);
        }
        x.voyage(0, 0);
        Due.is(1010, x.shift(0), "none is wanted");
        Due.is(-1, x.shift(1), "shift 1");
    }

    private static void shiftGoesNineAtMost() {
        Due.says("SHIFT: -9 .. 9 each");
        int[][] ends = {{0, 8, -1, 0, 1910}, {35, 8, 1, 0, 110}, {9, 0, 0, -1, 1019}, {9, 17, 0, 1, 1001}};
        for (int[] e : ends) {
            NeedleCharts x = begun(e[0], e[1]);
            x.leg(0, 9 * e[2], 9 * e[3]);
            Due.is(e[4], x.shift(0), "9 off the chart");
            x.leg(0, e[2], e[3]);
            Due.is(-4, x.shift(0), "10 off the chart");
        }
        NeedleCharts x = begun(0, 0);
        x.leg(0, -9, -9);
        Due.is(1919, x.shift(0), "9 both ways");
        NeedleCharts y = begun(35, 17);
        y.leg(0, 9, 9);
        Due.is(101, y.shift(0), "9 the other ways");
    }

    private static void shiftIsOfAllClosedPlaces() {
        Due.says("by which all CLOSED places of a VOYAGE are in the chart and on SEA");
        NeedleCharts x = begun(5, 5);
        x.land(5, 5, 5, true);
        Due.is(910, x.shift(0), "where it began");
        x.land(5, 5, 5, false);
        x.leg(0, 4, 0);
        x.land(9, 9, 5, true);
        Due.is(910, x.shift(0), "as RECKONED");
        x.sight(0, 9, 7);
        Due.is(1010, x.shift(0), "as CLOSED, no more as RECKONED");
        x.land(9, 9, 7, true);
        Due.is(910, x.shift(0), "the SIGHT");
        x.land(8, 8, 7, true);
        Due.is(1009, x.shift(0), "the SIGHT, whichever way");
        NeedleCharts y = begun(0, 0);
        for (int i = 0; i < 30; i++) {
            y.leg(0, 0, i == 29 ? 9 : 0);
        }
        y.land(0, 0, 9, true);
        Due.is(1011, y.shift(0), "the thirtieth");
    }

    private static void shiftStaysInTheChart() {
        Due.says("in the chart");
        int[][] corners = {{0, 0, 1011, 1110}, {35, 0, 910, 1011}, {0, 17, 1009, 1110}, {35, 17, 910, 1009}};
        for (int[] c : corners) {
            NeedleCharts x = begun(c[0], c[1]);
            Due.is(1010, x.shift(0), "a corner is in it");
            x.land(c[0], c[0], c[1], true);
            Due.is(c[2], x.shift(0), "off the LAND and in the chart: " + c[0] + " " + c[1]);
            x.land(c[2] / 100 - 10 + c[0], c[2] / 100 - 10 + c[0], c[2] % 100 - 10 + c[1], true);
            Due.is(c[3], x.shift(0), "the other way: " + c[0] + " " + c[1]);
        }
    }

    private static void shiftIsTheLeast() {
        Due.says("the least (east and north without signs together)");
        NeedleCharts x = begun(18, 9);
        x.land(15, 21, 9, true);
        Due.is(1009, x.shift(0), "1 north or south and not 4 east or west");
        x.land(18, 18, 8, true);
        Due.is(1011, x.shift(0), "1 north");
        x.land(18, 18, 10, true);
        Due.is(909, x.shift(0), "1 west and 1 south: 2 together");
        for (int y = 0; y < 18; y++) {
            x.land(0, 35, y, true);
        }
        x.land(27, 27, 9, false);
        Due.is(1910, x.shift(0), "9 east");
        x.land(18, 18, 17, false);
        Due.is(1018, x.shift(0), "8 north is less");
        x.land(9, 9, 0, false);
        Due.is(1018, x.shift(0), "9 west and 9 south is more");
        x.land(18, 18, 17, true);
        x.land(27, 27, 9, true);
        Due.is(101, x.shift(0), "9 west and 9 south");
        x.land(9, 9, 0, true);
        Due.is(-4, x.shift(0), "none");
    }

    private static void shiftLeastEastThenNorth() {
        Due.says("of several the least east, then north");
        int[][] order = {{-2, 0}, {-1, -1}, {-1, 1}, {0, -2}, {0, 2}, {1, -1}, {1, 1}, {2, 0}};
        NeedleCharts x = begun(18, 9);
        for (int y = 8; y <= 10; y++) {
            x.land(18, 18, y, true);
        }
        x.land(17, 19, 9, true);
        for (int[] o : order) {
            Due.is(100 * (o[0] + 10) + o[1] + 10, x.shift(0), "shift " + o[0] + " " + o[1]);
            x.land(18 + o[0], 18 + o[0], 9 + o[1], true);
        }
        Due.is(100 * 7 + 10, x.shift(0), "then 3 west");
    }
}

/** Promises 17 to 21: voyage, leg, sight, closed, shift. */
public final class VoyagesTest {
    public static void main(String[] args) {
        numbersAndRoom();
        wrongOnesAreRefused();
        closing();
        spans();
        sightBehindSight();
        shifts();
        ofSeveralShifts();
        Due.end("VoyagesTest");
    }

    private static int at(int x, int y) {
        return 1000 * (x + 500) + y + 500;
    }

    private static void numbersAndRoom() {
        NeedleCharts x = new NeedleCharts();
        for (int i = 0; i < 6; i++) {
            Due.is(i, x.voyage(35, 17), "voyage " + i);
        }
        Due.is(-2, x.voyage(0, 0), "one more");
        Due.is(-1, x.voyage(0, 18), "one more, not as told");
        for (int i = 1; i <= 30; i++) {
            Due.is(i, i % 7 == 0 ? x.sight(5, 1, 1) : x.leg(5, 9, -9), "leg " + i);
        }
        Due.is(-2, x.leg(5, 0, 0), "one leg more");
        Due.is(-2, x.sight(5, 0, 0), "one sight more");
        Due.is(-1, x.leg(5, 10, 0), "one leg more, not as told");
        Due.is(-1, x.sight(5, 36, 0), "one sight more, not as told");
        Due.is(at(1 + 18, 1 - 18), x.closed(5, 29, 0), "behind the last leg");
        Due.is(2, x.closed(5, 29, 1), "two since the sight");
        Due.is(1, x.leg(4, 0, 0), "the others are as they were");
        Due.is(6, x.count(2), "voyages");
    }

    private static void wrongOnesAreRefused() {
        NeedleCharts x = new NeedleCharts();
        x.voyage(3, 4);
        int[][] places = {{-1, 0}, {36, 0}, {0, -1}, {0, 18}, {Integer.MIN_VALUE, 0}};
        for (int[] p : places) {
            Due.is(-1, x.voyage(p[0], p[1]), "voyage " + p[0] + " " + p[1]);
            Due.is(-1, x.sight(0, p[0], p[1]), "sight " + p[0] + " " + p[1]);
        }
        int[][] legs = {{-1, 0, 0}, {1, 0, 0}, {0, 10, 0}, {0, -10, 0}, {0, 0, 10}, {0, 0, -10}};
        for (int[] l : legs) {
            Due.is(-1, x.leg(l[0], l[1], l[2]), "leg " + l[0] + " " + l[1] + " " + l[2]);
        }
        Due.is(-1, x.sight(1, 0, 0), "sight of no voyage");
        Due.is(-1, x.closed(0, 0, 0), "no leg");
        Due.is(-1, x.closed(0, -2, 0), "leg -2");
        Due.is(-1, x.closed(0, -1, 2), "what 2");
        Due.is(-1, x.closed(0, -1, -1), "what -1");
        Due.is(-1, x.closed(1, -1, 0), "no voyage");
        Due.is(-1, x.closed(0, Integer.MAX_VALUE, 0), "a leg far off");
        Due.is(-1, x.shift(-1), "shift of voyage -1");
        Due.is(-1, x.shift(1), "shift of no voyage");
        Due.is(at(3, 4), x.closed(0, -1, 0), "where it began");
        Due.is(0, x.closed(0, -1, 1), "its span");
    }

    private static void closing() {
        NeedleCharts x = new NeedleCharts();
        x.voyage(10, 10);
        x.leg(0, 2, 0);
        x.leg(0, 0, -3);
        x.leg(0, -5, 1);
        x.leg(0, 0, 0);
        int[] reckoned = {at(10, 10), at(12, 10), at(12, 7), at(7, 8), at(7, 8)};
        for (int i = -1; i < 4; i++) {
            Due.is(reckoned[i + 1], x.closed(0, i, 0), "reckoned " + i);
        }
        // the end is off by (-7, 6): a fourth part of that is cut toward 0 on both sides
        Due.is(5, x.sight(0, 14, 2), "sight");
        int[] closed = {at(10, 10), at(13, 9), at(15, 4), at(12, 4), at(14, 2), at(14, 2)};
        for (int i = -1; i < 5; i++) {
            Due.is(closed[i + 1], x.closed(0, i, 0), "closed " + i);
        }
        x.leg(0, 1, 1);
        Due.is(at(15, 3), x.closed(0, 5, 0), "reckoned from the sight");
        x.sight(0, 15, 4);
        Due.is(at(15, 4), x.closed(0, 5, 0), "a single leg closes at the sight");
        Due.is(at(12, 4), x.closed(0, 2, 0), "what was closed stays so");
    }

    private static void spans() {
        NeedleCharts x = new NeedleCharts();
        x.voyage(10, 10);
        for (int i = 0; i < 5; i++) {
            x.leg(0, 1, 0);
            Due.is(i + 1, x.closed(0, i, 1), "span " + i);
        }
        x.sight(0, 15, 10);
        x.leg(0, 1, 0);
        int[] spans = {0, 1, 2, 2, 1, 0, 0, 1};
        for (int i = -1; i < 7; i++) {
            Due.is(spans[i + 1], x.closed(0, i, 1), "span of " + i);
        }
    }

    private static void sightBehindSight() {
        NeedleCharts x = new NeedleCharts();
        x.voyage(1, 1);
        Due.is(1, x.sight(0, 20, 3), "a sight at once");
        Due.is(2, x.sight(0, 5, 9), "and one behind it");
        Due.is(at(1, 1), x.closed(0, -1, 0), "where it began");
        Due.is(at(20, 3), x.closed(0, 0, 0), "the first sight");
        Due.is(at(5, 9), x.closed(0, 1, 0), "the second one");
        Due.is(0, x.closed(0, 1, 1), "its span");
        x.leg(0, 4, 0);
        Due.is(at(9, 9), x.closed(0, 2, 0), "on from there");
    }

    private static void shifts() {
        NeedleCharts x = new NeedleCharts();
        x.voyage(0, 0);
        Due.is(1010, x.shift(0), "none is wanted");
        x.leg(0, -3, -4);
        Due.is(100 * 13 + 14, x.shift(0), "back into the chart");
        x.land(3, 3, 4, true);
        Due.is(100 * 13 + 15, x.shift(0), "and off the land: least east of the two that are as far");
        x.leg(0, 0, -6);
        Due.is(-4, x.shift(0), "more than 9");
        x.voyage(35, 17);
        Due.is(1010, x.shift(1), "the other corner");
        x.leg(1, 9, 9);
        Due.is(101, x.shift(1), "9 west, 9 south");
        x.leg(1, 1, 0);
        Due.is(-4, x.shift(1), "10 west");
        x.voyage(9, 0);
        x.leg(2, -9, -9);
        Due.is(1019, x.shift(2), "9 north");
        x.leg(2, -9, 9);
        Due.is(1919, x.shift(2), "9 east, 9 north");
        x.voyage(0, 17);
        for (int i = 0; i < 30; i++) {
            x.leg(3, 0, i < 29 ? 0 : 5);
        }
        Due.is(1005, x.shift(3), "the thirtieth leg counts");
    }

    private static void ofSeveralShifts() {
        NeedleCharts x = new NeedleCharts();
        x.voyage(10, 10);
        x.land(10, 10, 10, true);
        Due.is(910, x.shift(0), "least east first");
        x.land(9, 9, 10, true);
        Due.is(1009, x.shift(0), "then least north");
        x.land(10, 10, 9, true);
        Due.is(1011, x.shift(0), "then north");
        x.land(10, 10, 11, true);
        Due.is(1110, x.shift(0), "then east");
        x.land(11, 11, 10, true);
        Due.is(810, x.shift(0), "then two west");
        x.land(8, 8, 10, true);
        Due.is(909, x.shift(0), "then one west, one south");
        for (int y = 0; y < 18; y++) {
            x.land(0, 35, y, true);
        }
        Due.is(-4, x.shift(0), "all is land");
        x.land(19, 19, 1, false);
        Due.is(1901, x.shift(0), "the far end of what may be");
        x.land(19, 19, 1, true);
        x.land(0, 0, 10, false);
        Due.is(-4, x.shift(0), "too far off");
    }
}

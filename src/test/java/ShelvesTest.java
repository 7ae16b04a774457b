import java.util.Arrays;

/** Promises 44 to 50: keep, row, put, element, copy, heft, toss. */
public final class ShelvesTest {
    public static void main(String[] args) {
        keeping();
        rows();
        putting();
        elements();
        copying();
        copyRefuses();
        hefts();
        tosses();
        Due.end("ShelvesTest");
    }

    private static void keeping() {
        NeedleCharts x = new NeedleCharts();
        Due.is(-1, x.keep(0, 1, 0), "no such reading");
        x.reading(0, 5, 0, 0, 0, 0);
        Due.is(0, x.keep(0, 1, 0), "a reading");
        Due.is(128, x.heft(0), "it is held");
        int[][] wrong = {{-1, 1, 0}, {8, 1, 0}, {0, 2, 0}, {0, -1, 0}, {0, 1, 1}, {0, 1, -1}, {8, 0, 0}};
        for (int[] w : wrong) {
            Due.is(-1, x.keep(w[0], w[1], w[2]), "keep " + Arrays.toString(w));
        }
        Due.is(128, x.heft(0), "a refused call changes nothing");
        Due.is(0, x.keep(0, 0, -77), "nothing: the others do not matter");
        Due.is(-11, x.heft(0), "it is empty");
        x.row(1, 0, 1);
        Due.is(0, x.keep(1, 1, 0), "a reading in a row's place");
        Due.is(-12, x.put(1, 0, 0), "it is no row");
        Due.is(0, x.row(1, 0, 1), "a row in a reading's place");
        Due.is(-12, x.heft(1), "it is no reading");
        x.keep(1, 0, 0);
        Due.is(-11, x.put(1, 0, 0), "nothing in a row's place");
    }

    private static void rows() {
        NeedleCharts x = new NeedleCharts();
        int[][] wrong = {{-1, 0, 0}, {8, 0, 0}, {0, -1, 0}, {0, 3, 0}, {0, 0, 81}, {8, 0, -1}, {0, 3, -1}};
        for (int[] w : wrong) {
            Due.is(-1, x.row(w[0], w[1], w[2]), "row " + Arrays.toString(w));
        }
        Due.is(-14, x.row(0, 0, -1), "a size below 0");
        Due.is(-14, x.row(0, 2, Integer.MIN_VALUE), "a size far below 0");
        Due.is(-11, x.put(0, 0, 0), "nothing came of these");
        for (int sort = 0; sort <= 2; sort++) {
            Due.is(0, x.row(sort, sort, 80), "a row");
            Due.is(0, x.put(sort, 79, 9), "its last element");
            Due.is(0, x.row(sort, sort, 80), "a row again");
            Due.is(0, x.element(sort, 79), "0 at first");
        }
        x.put(2, 0, 5);
        x.row(2, 2, 1);
        Due.is(0, x.element(2, 0), "the first one, too");
        Due.is(0, x.row(7, 1, 0), "a row without elements");
        Due.is(-13, x.put(7, 0, 0), "has no place");
    }

    private static void putting() {
        NeedleCharts x = new NeedleCharts();
        int[] told = {127, 128, 255, 256, -129, 32767, 32768, 65536, Integer.MAX_VALUE, Integer.MIN_VALUE, -1};
        for (int sort = 0; sort <= 2; sort++) {
            x.row(sort, sort, 3);
            for (int v : told) {
                Due.is(0, x.put(sort, 2, v), "put");
                int kept = sort == 0 ? (byte) v : sort == 1 ? (short) v : v;
                Due.is(kept, x.element(sort, 2), v + " in a row of sort " + sort);
            }
        }
        x.reading(0, 0, 0, 0, 0, 0);
        x.keep(4, 1, 0);
        int[][] wrong = {{-1, 0, -1}, {8, 0, -1}, {5, 9, -11}, {4, 9, -12}, {0, 3, -13}, {0, -1, -13}};
        for (int[] w : wrong) {
            Due.is(w[2], x.put(w[0], w[1], 0), "put " + w[0] + " " + w[1]);
        }
    }

    private static void elements() {
        NeedleCharts x = new NeedleCharts();
        x.reading(0, 0, 0, 0, 0, 0);
        x.keep(1, 1, 0);
        x.row(2, 2, 2);
        x.put(2, 1, -5);
        Due.is(-5, x.element(2, 1), "element");
        Due.is(0, x.element(2, 0), "0 at first");
        Due.illegal(() -> x.element(-1, 0), "shelf -1");
        Due.illegal(() -> x.element(8, -1), "shelf 8");
        int[][] wrong = {{0, 0}, {1, 0}, {2, 2}, {2, -1}, {2, Integer.MAX_VALUE}};
        for (int[] w : wrong) {
            Due.fails(IllegalStateException.class, () -> x.element(w[0], w[1]), "element " + w[0] + " " + w[1]);
        }
    }

    private static void copying() {
        NeedleCharts x = new NeedleCharts();
        Due.numbers(x, 0, 1, 1, 2, 3, 4, 5);
        Due.numbers(x, 1, 1, 9, 9, 9);
        Due.is(2, x.copy(0, 3, 1, 1, 2), "to another row");
        row(x, 1, 9, 4, 5);
        Due.is(3, x.copy(1, 0, 1, 0, 3), "a whole row");
        Due.is(4, x.copy(0, 0, 0, 1, 4), "forward in one row");
        row(x, 0, 1, 1, 2, 3, 4);
        Due.is(4, x.copy(0, 1, 0, 0, 4), "back in one row");
        row(x, 0, 1, 2, 3, 4, 4);
        Due.is(0, x.copy(0, 5, 1, 3, 0), "nothing from behind the last to behind the last");
        Due.is(0, x.copy(0, 0, 1, 0, 0), "nothing");
        row(x, 1, 9, 4, 5);
    }

    private static void row(NeedleCharts x, int d, int... want) {
        for (int i = 0; i < want.length; i++) {
            Due.is(want[i], x.element(d, i), "element " + i + " of shelf " + d);
        }
    }

    private static void copyRefuses() {
        NeedleCharts x = new NeedleCharts();
        x.reading(0, 0, 0, 0, 0, 0);
        x.keep(1, 1, 0);
        x.row(2, 0, 5);
        x.row(3, 0, 3);
        x.row(4, 1, 5);
        int max = Integer.MAX_VALUE;
        int[][] wrong = {
            {-1, 0, 2, 0, 1, -1}, {2, 0, 8, 0, 1, -1}, {-1, 0, 0, 0, -1, -1}, {0, 0, 2, 0, 1, -11}, {2, 0, 0, 0, 1, -11},
            {1, 0, 0, 0, 1, -11}, {1, 0, 2, 0, 1, -12}, {2, 0, 1, 0, 1, -12}, {1, 0, 1, 0, 0, -12}, {2, 0, 4, 0, -1, -12},
            {2, 0, 3, 0, 4, -13}, {3, 0, 2, 0, 4, -13}, {2, -1, 3, 0, 1, -13}, {2, 0, 3, -1, 1, -13}, {2, 0, 3, 0, -1, -13},
            {2, 6, 3, 0, 0, -13}, {2, 0, 3, 4, 0, -13}, {2, max, 3, 0, max, -13}, {2, 1, 3, 1, max, -13},
            {2, max, 3, 0, 1, -13}, {2, 0, 3, max, 1, -13}, {2, 3, 3, 0, 3, -13}, {2, 0, 3, 0, Integer.MIN_VALUE, -13},
        };
        for (int[] w : wrong) {
            Due.is(w[5], x.copy(w[0], w[1], w[2], w[3], w[4]), "copy " + Arrays.toString(w));
        }
    }

    private static NeedleCharts oneOfEach() {
        NeedleCharts x = new NeedleCharts();
        for (int kind = 0; kind <= 5; kind++) {
            x.reading(kind, kind + 2, 18 * 11 + 4, 0, 0, kind == 1 ? 5 : 0);
            x.keep(kind, 1, kind);
        }
        x.row(6, 0, 4);
        return x;
    }

    private static void hefts() {
        NeedleCharts x = oneOfEach();
        int[] hefts = {128, 139 + 50, 136 + 11, 121 + 200, 2 * (149 + 200), 120, -12, -11};
        for (int d = 0; d < 8; d++) {
            Due.is(hefts[d], x.heft(d), "heft " + d);
        }
        Due.is(-1, x.heft(-1), "heft -1");
        Due.is(-1, x.heft(8), "heft 8");
        Due.rule(x, "g:99");
        Due.is(128, x.heft(0), "by kind, not by a rule");
    }

    private static void tosses() {
        NeedleCharts x = oneOfEach();
        int[] tosses = {2, 3, 4, 5, 106, -15, -12, -11};
        for (int d = 0; d < 8; d++) {
            Due.is(tosses[d], x.toss(d), "toss " + d);
        }
        Due.is(-1, x.toss(-1), "toss -1");
        Due.is(-1, x.toss(8), "toss 8");
        x.land(11, 11, 4, true);
        tosses[2] = -15;
        for (int d = 0; d < 8; d++) {
            Due.is(tosses[d], x.toss(d), "toss " + d + " on land");
        }
        x.land(11, 11, 4, false);
        Due.is(4, x.toss(2), "a plan at sea again");
    }
}

/** Promises 6 to 8: reading, about, value. */
public final class ReadingsTest {
    public static void main(String[] args) {
        whatIsToldIsKept();
        wrongOnesAreRefused();
        thereIsRoomForEighty();
        Due.end("ReadingsTest");
    }

    private static void whatIsToldIsKept() {
        NeedleCharts x = new NeedleCharts();
        Due.is(0, x.reading(0, 0, 0, 0, -1800, 0), "the first reading");
        x.edition(7);
        Due.is(1, x.reading(1, 9, 647, 800000, 1799, 7), "the second one");
        int[] first = {0, 0, 0, 0, 0, 0};
        int[] second = {1, 9, 647, 800000, 7, 7};
        for (int what = 0; what <= 5; what++) {
            Due.is(first[what], x.about(0, what), "about(0, " + what + ")");
            Due.is(second[what], x.about(1, what), "about(1, " + what + ")");
        }
        for (int kind = 0; kind <= 5; kind++) {
            Due.is(kind, x.about(x.reading(kind, 3, 25, 7, 1, 0), 0), "kind " + kind);
        }
        Due.is(-1800, x.value(0), "value");
        Due.is(1799, x.value(1), "value");
    }

    private static void wrongOnesAreRefused() {
        NeedleCharts x = new NeedleCharts();
        int[][] wrong = {
            {-1, 0, 0, 0, 0, 0}, {6, 0, 0, 0, 0, 0}, {0, -1, 0, 0, 0, 0}, {0, 10, 0, 0, 0, 0}, {0, 0, -1, 0, 0, 0},
            {0, 0, 648, 0, 0, 0}, {0, 0, 0, -1, 0, 0}, {0, 0, 0, 800001, 0, 0}, {0, 0, 0, 0, -1801, 0},
            {0, 0, 0, 0, 1800, 0}, {0, 0, 0, 0, 0, 1}, {3, 0, 0, 0, 0, 1}, {1, 0, 0, 0, 0, 8}, {1, 0, 0, 0, 0, -1},
        };
        for (int[] w : wrong) {
            Due.is(-1, x.reading(w[0], w[1], w[2], w[3], w[4], w[5]), "reading " + java.util.Arrays.toString(w));
        }
        Due.is(0, x.count(0), "readings");
        Due.is(0, x.reading(0, 0, 0, 0, 0, 0), "the first one");
        Due.is(-1, x.about(-1, 0), "about -1");
        Due.is(-1, x.about(1, 0), "about one that is not there");
        Due.is(-1, x.about(0, -1), "what -1");
        Due.is(-1, x.about(0, 6), "what 6");
        Due.illegal(() -> x.value(-1), "value(-1)");
        Due.illegal(() -> x.value(1), "value(1)");
        Due.illegal(() -> x.value(Integer.MAX_VALUE), "value(MAX)");
    }

    private static void thereIsRoomForEighty() {
        NeedleCharts x = new NeedleCharts();
        for (int i = 0; i < 80; i++) {
            Due.is(i, x.reading(i % 6, 0, i, i, i, 0), "reading " + i);
        }
        Due.is(-2, x.reading(0, 0, 0, 0, 0, 0), "one more");
        Due.is(-1, x.reading(0, 0, 0, 0, 0, 9), "one more, not as told");
        Due.is(80, x.count(0), "readings");
        Due.is(79, x.value(79), "the last one");
    }
}

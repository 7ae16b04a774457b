/** Promises 6 to 8 and what the terms say of READINGS: a test for each sentence that names a boundary. */
public final class BoundsOfReadingsTest {
    private static final int MIN = Integer.MIN_VALUE;
    private static final int MAX = Integer.MAX_VALUE;
    private static final String[] ARGUMENTS = {"kind", "source", "place", "day", "value", "told"};
    private static final int[] LEAST = {0, 0, 0, 0, -1800, 0};
    private static final int[] MOST = {5, 9, 647, 800000, 1799, 7};

    public static void main(String[] args) {
        eachArgumentHasItsEnds();
        headingsAreOfShips();
        readingsAre0To79();
        refusalsHaveTheirOrder();
        refusedReadingsChangeNothing();
        aboutTellsSixThings();
        theEditionIsThatInWhichItCame();
        valueIsOfReadings();
        weightsByKind();
        spansByKind();
        Due.end("BoundsOfReadingsTest");
    }

    private static int read(NeedleCharts x, int[] a) {
        return x.reading(a[0], a[1], a[2], a[3], a[4], a[5]);
    }

    private static void eachArgumentHasItsEnds() {
        for (int i = 0; i < 6; i++) {
            Due.says("6: " + ARGUMENTS[i] + " " + LEAST[i] + " .. " + MOST[i]);
            NeedleCharts x = new NeedleCharts();
            int[] good = {1, 4, 100, 1000, 50, 3};
            for (int end : new int[] {LEAST[i], MOST[i]}) {
                good[5] = i == 0 ? 0 : 3;
                good[i] = end;
                int n = read(x, good);
                Due.isTrue(n >= 0, ARGUMENTS[i] + " " + end + " is one");
                int[] told = {x.about(n, 0), x.about(n, 1), x.about(n, 2), x.about(n, 3), (int) x.value(n), x.about(n, 4)};
                Due.is(end, told[i], ARGUMENTS[i] + " is told as " + end);
            }
            for (int none : new int[] {LEAST[i] - 1, MOST[i] + 1, MIN, MAX}) {
                good[i] = none;
                Due.is(-1, read(x, good), ARGUMENTS[i] + " " + none);
            }
            Due.is(2, x.count(0), "two READINGS came");
        }
    }

    private static void headingsAreOfShips() {
        Due.says("6: told: for SHIPS HEADING, else 0");
        NeedleCharts x = new NeedleCharts();
        for (int kind = 0; kind <= 5; kind++) {
            for (int told : new int[] {-1, 1, 7, 8, MIN, MAX}) {
                int n = x.count(0);
                boolean heading = kind == 1 && told >= 0 && told <= 7;
                Due.is(heading ? n : -1, x.reading(kind, 0, 0, 0, 0, told), "kind " + kind + " told " + told);
            }
            int n = x.reading(kind, 0, 0, 0, 0, 0);
            Due.is(0, x.about(n, 4), "HEADING of kind " + kind);
        }
        for (int heading = 0; heading <= 7; heading++) {
            Due.is(heading, x.about(x.reading(1, 0, 0, 0, 0, heading), 4), "HEADING " + heading);
        }
    }

    private static void readingsAre0To79() {
        Due.says("READINGS 0 .. 79 as they come; 6: -2");
        NeedleCharts x = new NeedleCharts();
        for (int i = 0; i < 80; i++) {
            Due.is(i, x.reading(i % 6, i % 10, 8 * i, 10000 * i, 20 * i - 800, 0), "reading " + i);
        }
        for (int kind = 0; kind <= 5; kind++) {
            Due.is(-2, x.reading(kind, 0, 0, 0, 0, 0), "one more of kind " + kind);
        }
        Due.is(80, x.count(0), "READINGS");
        for (int i = 0; i < 80; i++) {
            Due.is(20 * i - 800, x.value(i), "value " + i);
            Due.is(10000 * i, x.about(i, 3), "day " + i);
        }
        Due.is(-1, x.about(80, 0), "no READING 80");
    }

    private static void refusalsHaveTheirOrder() {
        Due.says("6: -1 is ahead of -2");
        NeedleCharts x = new NeedleCharts();
        for (int i = 0; i < 80; i++) {
            x.reading(0, 0, 0, 0, 0, 0);
        }
        for (int i = 0; i < 6; i++) {
            int[] none = {1, 4, 100, 1000, 50, 3};
            none[i] = MOST[i] + 1;
            Due.is(-1, read(x, none), "no " + ARGUMENTS[i] + ", and no room");
        }
        Due.is(-1, x.reading(0, 0, 0, 0, 0, 1), "told for what is no SHIP, and no room");
    }

    private static void refusedReadingsChangeNothing() {
        Due.says("6: a refused call changes nothing");
        NeedleCharts x = new NeedleCharts();
        x.reading(3, 1, 20, 500, 10, 0);
        x.reading(3, 1, 20, 500, 10, 0);
        for (int i = 0; i < 6; i++) {
            int[] none = {1, 4, 20, 500, 50, 3};
            none[i] = LEAST[i] - 1;
            read(x, none);
        }
        Due.is(2, x.count(0), "READINGS");
        Due.is(0, x.night(0), "no NIGHT came of it");
        Due.is(0, x.cost(0) - 2 * 16 * 100, "no COST came of it");
        Due.is(2, x.reading(0, 0, 0, 0, 0, 0), "the next number");
    }

    private static void aboutTellsSixThings() {
        Due.says("7: 0 KIND .. 5 the EDITION; -1");
        NeedleCharts x = new NeedleCharts();
        x.edition(9);
        x.reading(1, 8, 18 * 35 + 17, 7000, -5, 6);
        int[] told = {1, 8, 647, 7000, 6, 9};
        for (int what = 0; what <= 5; what++) {
            Due.is(told[what], x.about(0, what), "about 0 " + what);
        }
        for (int none : new int[] {-1, 6, 7, MIN, MAX}) {
            Due.is(-1, x.about(0, none), "about 0 " + none);
        }
        for (int none : new int[] {-1, 1, 79, 80, MIN, MAX}) {
            for (int what = -1; what <= 6; what++) {
                Due.is(-1, x.about(none, what), "about " + none + " " + what);
            }
        }
    }

    private static void theEditionIsThatInWhichItCame() {
        Due.says("7: the EDITION in which it came");
        NeedleCharts x = new NeedleCharts();
        int[] editions = {0, 1, 59, 60};
        for (int e : editions) {
            x.edition(e);
            x.reading(0, 0, 0, 0, 0, 0);
        }
        for (int i = 0; i < editions.length; i++) {
            Due.is(editions[i], x.about(i, 5), "EDITION of " + i);
            Due.is(8, x.counts(i, 0, editions[i]), "known from its EDITION on");
            if (editions[i] > 0) {
                Due.is(-3, x.counts(i, 0, editions[i] - 1), "and not ahead of it");
            }
        }
    }

    private static void valueIsOfReadings() {
        Due.says("8: IllegalArgumentException: none such");
        NeedleCharts x = new NeedleCharts();
        Due.illegal(() -> x.value(0), "value of the first, when there is none");
        x.reading(0, 0, 0, 0, -1800, 0);
        x.reading(0, 0, 0, 0, 1799, 0);
        Due.is(-1800, x.value(0), "the least");
        Due.is(1799, x.value(1), "the most");
        for (int none : new int[] {-1, 2, 79, 80, MIN, MAX}) {
            Due.illegal(() -> x.value(none), "value " + none);
        }
    }

    private static NeedleCharts oneOfEach() {
        NeedleCharts x = new NeedleCharts();
        for (int kind = 0; kind <= 5; kind++) {
            x.reading(kind, 0, 0, 0, 0, 0);
        }
        return x;
    }

    private static void weightsByKind() {
        NeedleCharts x = oneOfEach();
        String[] words = {
            "READING 8", "SHIP half of that", "PLAN 2 less than a READING's", "STATION twice a READING's",
            "SHAKEN a quarter of a STATION's", "COPIED none",
        };
        int[] weights = {8, 4, 6, 16, 4, 0};
        for (int kind = 0; kind <= 5; kind++) {
            Due.says("WEIGHT: " + words[kind]);
            Due.is(weights[kind], x.counts(kind, 0, 0), "WEIGHT of kind " + kind);
        }
        Due.is(1, x.count(8), "COPIED ones alone weigh nothing");
    }

    private static void spansByKind() {
        NeedleCharts x = oneOfEach();
        String[] words = {
            "READING 20", "SHIP 15 more", "PLAN 10 more than a READING's", "STATION a quarter of a READING's",
            "SHAKEN 40 more than a STATION's", "COPIED as READING",
        };
        int[] spans = {20, 35, 30, 5, 45, 20};
        for (int kind = 0; kind <= 5; kind++) {
            Due.says("SPAN: " + words[kind]);
            Due.is(spans[kind], x.counts(kind, 1, 0), "SPAN of kind " + kind);
        }
    }
}

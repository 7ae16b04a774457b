/** Promises 44 to 50 and what the terms say of SHELVES: a test for each sentence that names a boundary. */
public final class BoundsOfShelvesTest {
    private static final int MIN = Integer.MIN_VALUE;
    private static final int MAX = Integer.MAX_VALUE;
    private static final int[] NO_SHELVES = {-1, 8, 9, MIN, MAX};

    public static void main(String[] args) {
        shelvesAre0To7();
        nothingIsHeldAtFirst();
        keepHasItsEnds();
        keepingReplaces();
        rowsHaveTheirEnds();
        rowsAreZeroAtFirst();
        refusedRowsChangeNothing();
        lowestBitsAreKept();
        putHasItsEnds();
        elementHasItsEnds();
        copyHasItsEnds();
        copyRefusesInOrder();
        copyOfNothing();
        copyWithinOneRow();
        copyRefusedChangesNothing();
        heftsByKind();
        heftRefuses();
        tossesByKind();
        plansOnLandHaveNone();
        tossRefuses();
        Due.end("BoundsOfShelvesTest");
    }

    private static void shelvesAre0To7() {
        Due.says("SHELVES 0 .. 7");
        NeedleCharts x = new NeedleCharts();
        x.reading(0, 0, 0, 0, 0, 0);
        for (int d = 0; d <= 7; d++) {
            Due.is(0, x.row(d, 2, 1), "row " + d);
            Due.is(0, x.put(d, 0, 70 + d), "put " + d);
        }
        for (int d = 0; d <= 7; d++) {
            Due.is(70 + d, x.element(d, 0), "each has its own, " + d);
        }
        for (int d : NO_SHELVES) {
            Due.is(-1, x.keep(d, 0, 0), "keep " + d);
            Due.is(-1, x.keep(d, 1, 0), "keep " + d);
            Due.is(-1, x.row(d, 0, 1), "row " + d);
            Due.is(-1, x.put(d, 0, 0), "put " + d);
            Due.is(-1, x.copy(d, 0, 0, 0, 1), "copy from " + d);
            Due.is(-1, x.copy(0, 0, d, 0, 1), "copy to " + d);
            Due.is(-1, x.heft(d), "heft " + d);
            Due.is(-1, x.toss(d), "toss " + d);
            Due.is(-1, x.fault(d), "fault " + d);
            Due.is(-1, x.rule(d), "rule " + d);
            Due.is(-1, x.judge(d), "judge " + d);
            Due.illegal(() -> x.element(d, 0), "element " + d);
        }
    }

    private static void nothingIsHeldAtFirst() {
        Due.says("each hold nothing (at first)");
        NeedleCharts x = new NeedleCharts();
        for (int d = 0; d <= 7; d++) {
            int shelf = d;
            Due.is(-11, x.put(d, 0, 0), "put " + d);
            Due.is(-11, x.heft(d), "heft " + d);
            Due.is(-11, x.toss(d), "toss " + d);
            Due.is(-11, x.fault(d), "fault " + d);
            Due.is(-11, x.rule(d), "rule " + d);
            Due.is(-11, x.judge(d), "judge " + d);
            Due.is(-11, x.copy(d, 0, 7 - d, 0, 0), "copy " + d);
            Due.illegalState(() -> x.element(shelf, 0), "element " + d);
        }
    }

    private static void keepHasItsEnds() {
        Due.says("44: what 0 nothing, 1 READING k; -1");
        NeedleCharts x = new NeedleCharts();
        x.reading(0, 0, 0, 0, 0, 0);
        x.reading(1, 0, 0, 0, 0, 0);
        for (int what : new int[] {-1, 2, MIN, MAX}) {
            Due.is(-1, x.keep(0, what, 0), "what " + what);
        }
        for (int k : new int[] {-1, 2, 79, 80, MIN, MAX}) {
            Due.is(-1, x.keep(0, 1, k), "READING " + k);
            Due.is(0, x.keep(1, 0, k), "nothing: the others do not matter, " + k);
        }
        Due.is(-11, x.heft(0), "a refused call changes nothing");
        Due.is(0, x.keep(0, 1, 1), "the last READING");
        Due.is(139, x.heft(0), "it is held");
        Due.is(-1, x.keep(0, 1, 2), "no such READING");
        Due.is(-1, x.keep(0, 2, 0), "no such what");
        Due.is(139, x.heft(0), "a refused call changes nothing");
        Due.is(0, x.keep(7, 1, 0), "the first READING on the last SHELF");
        Due.is(128, x.heft(7), "it is held");
    }

    private static void keepingReplaces() {
        Due.says("44, 45: SHELF d gets");
        NeedleCharts x = new NeedleCharts();
        x.reading(0, 0, 0, 0, 0, 0);
        x.row(0, 0, 2);
        Due.is(0, x.keep(0, 1, 0), "a READING for a ROW");
        Due.is(-12, x.put(0, 0, 1), "it is no ROW");
        Due.illegalState(() -> x.element(0, 0), "it is no ROW");
        Due.is(0, x.row(0, 1, 2), "a ROW for a READING");
        Due.is(-12, x.heft(0), "it is no READING");
        Due.is(0, x.row(0, 2, 1), "a ROW for a ROW");
        Due.is(-13, x.put(0, 1, 1), "it is a shorter one");
        Due.is(0, x.keep(0, 0, 0), "nothing for a ROW");
        Due.is(-11, x.put(0, 0, 1), "nothing is held");
        Due.is(0, x.keep(0, 0, 0), "nothing for nothing");
        Due.is(0, x.keep(0, 1, 0), "a READING for nothing");
        Due.is(0, x.keep(0, 0, 0), "nothing for a READING");
        Due.is(-11, x.toss(0), "nothing is held");
    }

    private static void rowsHaveTheirEnds() {
        Due.says("45: SORTS 0 .. 2; 0 .. 80 elements; -1 (n above 80); -14");
        NeedleCharts x = new NeedleCharts();
        for (int sort = 0; sort <= 2; sort++) {
            Due.is(0, x.row(0, sort, 80), "80 of sort " + sort);
            Due.is(0, x.put(0, 79, 1), "the last of 80");
            Due.is(-13, x.put(0, 80, 1), "none behind it");
            Due.is(-1, x.row(0, sort, 81), "81 of sort " + sort);
            Due.is(-1, x.row(0, sort, MAX), "far more");
            Due.is(-14, x.row(0, sort, -1), "-1 of sort " + sort);
            Due.is(-14, x.row(0, sort, MIN), "far less");
            Due.is(0, x.row(0, sort, 0), "0 of sort " + sort);
            Due.is(-13, x.put(0, 0, 1), "none in it");
        }
        for (int sort : new int[] {-1, 3, MIN, MAX}) {
            Due.is(-1, x.row(0, sort, 1), "sort " + sort);
            Due.is(-1, x.row(0, sort, -1), "no SORT is ahead of a size below 0");
        }
        Due.is(-1, x.row(8, 0, -1), "no SHELF is ahead of a size below 0");
    }

    private static void rowsAreZeroAtFirst() {
        Due.says("elements are 0 at first");
        NeedleCharts x = new NeedleCharts();
        for (int sort = 0; sort <= 2; sort++) {
            x.row(3, sort, 80);
            for (int i = 0; i < 80; i += 79) {
                x.put(3, i, -1);
            }
            x.row(3, sort, 80);
            for (int i = 0; i < 80; i += 79) {
                Due.is(0, x.element(3, i), "element " + i + " of a new ROW of sort " + sort);
            }
        }
        x.row(3, 2, 80);
        x.put(3, 40, 5);
        x.row(3, 2, 10);
        x.row(3, 2, 80);
        Due.is(0, x.element(3, 40), "behind the end of the ROW that was there between");
    }

    private static void refusedRowsChangeNothing() {
        Due.says("45: a refused call changes nothing");
        NeedleCharts x = new NeedleCharts();
        x.row(0, 2, 3);
        x.put(0, 2, 99999);
        x.row(0, 0, 81);
        x.row(0, 0, -1);
        x.row(0, 3, 1);
        x.row(0, -1, 1);
        Due.is(99999, x.element(0, 2), "the ROW is as it was");
        Due.is(-13, x.put(0, 3, 0), "and as long");
    }

    private static void lowestBitsAreKept() {
        Due.says("what is put in keeps its lowest bits");
        NeedleCharts x = new NeedleCharts();
        int[] told = {0, 127, 128, 255, 256, -1, -128, -129, 32767, 32768, 65535, 65536, -32768, -32769, MAX, MIN};
        int[] bytes = {0, 127, -128, -1, 0, -1, -128, 127, -1, 0, -1, 0, 0, -1, -1, 0};
        int[] shorts = {0, 127, 128, 255, 256, -1, -128, -129, 32767, -32768, -1, 0, -32768, 32767, -1, 0};
        for (int sort = 0; sort <= 2; sort++) {
            x.row(sort, sort, 1);
            for (int i = 0; i < told.length; i++) {
                Due.is(0, x.put(sort, 0, told[i]), "put " + told[i]);
                int due = sort == 0 ? bytes[i] : sort == 1 ? shorts[i] : told[i];
                Due.is(due, x.element(sort, 0), told[i] + " in a ROW of sort " + sort);
            }
        }
    }

    private static void putHasItsEnds() {
        Due.says("46: -1, -11, -12, -13");
        NeedleCharts x = new NeedleCharts();
        x.reading(0, 0, 0, 0, 0, 0);
        x.keep(1, 1, 0);
        x.row(2, 1, 3);
        for (int i : new int[] {-1, 0, 3, MIN, MAX}) {
            Due.is(-11, x.put(0, i, 1), "in nothing at " + i);
            Due.is(-12, x.put(1, i, 1), "in a READING at " + i);
            Due.is(-1, x.put(-1, i, 1), "in no SHELF at " + i);
            Due.is(i == 0 ? 0 : -13, x.put(2, i, 1), "in a ROW of 3 at " + i);
        }
        Due.is(0, x.put(2, 2, 7), "the last element");
        Due.is(1, x.element(2, 0), "the first is as it was put");
        Due.is(0, x.element(2, 1), "the second is as it was");
        Due.is(7, x.element(2, 2), "the last is as it was put");
    }

    private static void elementHasItsEnds() {
        Due.says("47: IllegalArgumentException: no such SHELF; IllegalStateException: no ROW, no such place");
        NeedleCharts x = new NeedleCharts();
        x.reading(0, 0, 0, 0, 0, 0);
        x.keep(1, 1, 0);
        x.row(2, 1, 3);
        x.row(3, 1, 0);
        for (int i : new int[] {-1, 3, 80, MIN, MAX}) {
            for (int d : NO_SHELVES) {
                Due.illegal(() -> x.element(d, i), "SHELF " + d + " at " + i);
            }
            Due.illegalState(() -> x.element(0, i), "nothing at " + i);
            Due.illegalState(() -> x.element(1, i), "a READING at " + i);
            Due.illegalState(() -> x.element(2, i), "a ROW of 3 at " + i);
        }
        Due.illegalState(() -> x.element(0, 0), "nothing at 0");
        Due.illegalState(() -> x.element(1, 0), "a READING at 0");
        Due.illegalState(() -> x.element(3, 0), "a ROW of 0 at 0");
        Due.is(0, x.element(2, 0), "the first of 3");
        Due.is(0, x.element(2, 2), "the last of 3");
    }

    private static void copyHasItsEnds() {
        Due.says("48: n elements from i on come to j on; -13 (n below 0, too)");
        NeedleCharts x = new NeedleCharts();
        Due.numbers(x, 0, 2, 1, 2, 3, 4, 5);
        x.row(1, 2, 3);
        Due.is(3, x.copy(0, 2, 1, 0, 3), "up to the last of both");
        Due.is(3, x.element(1, 0), "the first that came");
        Due.is(5, x.element(1, 2), "the last that came");
        Due.is(1, x.copy(0, 4, 1, 2, 1), "the last to the last");
        int[][] none = {
            {3, 0, 3}, {2, 1, 3}, {0, 0, 4}, {5, 0, 1}, {0, 3, 1}, {-1, 0, 1}, {0, -1, 1}, {0, 0, -1}, {-1, 0, 0},
            {0, -1, 0}, {MAX, 0, 1}, {0, MAX, 1}, {1, 1, MAX}, {MAX, 0, MAX}, {0, MAX, MAX}, {0, 0, MIN}, {MIN, 0, 1},
            {0, MIN, 1}, {MIN, MIN, MIN}, {3, 0, MAX - 2}, {MIN, 0, MAX}, {0, 0, 6},
        };
        for (int[] n : none) {
            Due.is(-13, x.copy(0, n[0], 1, n[1], n[2]), "copy " + n[0] + " " + n[1] + " " + n[2]);
        }
        Due.is(5, x.copy(0, 0, 0, 0, 5), "a whole ROW to itself");
        Due.is(-13, x.copy(0, 0, 0, 1, 5), "one beyond its end");
    }

    private static void copyRefusesInOrder() {
        Due.says("48: -1, -11 (either), -12 (no ROWS of one SORT), -13");
        NeedleCharts x = new NeedleCharts();
        x.reading(0, 0, 0, 0, 0, 0);
        x.keep(1, 1, 0);
        for (int sort = 0; sort <= 2; sort++) {
            x.row(2 + sort, sort, 2);
        }
        int[] held = {0, 1, 2, 3, 4};
        for (int d : held) {
            Due.is(-1, x.copy(d, -1, 8, -1, -1), "no SHELF is ahead of all, from " + d);
            Due.is(-1, x.copy(-1, -1, d, -1, -1), "no SHELF is ahead of all, to " + d);
            Due.is(-11, x.copy(0, -1, d, -1, -1), "from nothing to " + d);
            Due.is(-11, x.copy(d, -1, 0, -1, -1), "from " + d + " to nothing");
        }
        for (int d = 1; d <= 4; d++) {
            Due.is(-12, x.copy(1, -1, d, -1, -1), "from a READING to " + d);
            Due.is(-12, x.copy(d, -1, 1, -1, -1), "from " + d + " to a READING");
            for (int e = 2; e <= 4; e++) {
                int due = d == e ? -13 : -12;
                Due.is(due, x.copy(d, 0, e, 0, 3), "from " + d + " to " + e);
            }
        }
        Due.is(-12, x.copy(1, 0, 1, 0, 0), "a READING to itself");
    }

    private static void copyOfNothing() {
        Due.says("48: n 0");
        NeedleCharts x = new NeedleCharts();
        Due.numbers(x, 0, 0, 1, 2);
        Due.numbers(x, 1, 0, 8, 9);
        x.row(2, 0, 0);
        Due.is(0, x.copy(0, 0, 1, 0, 0), "nothing");
        Due.is(0, x.copy(0, 1, 1, 1, 0), "nothing at the last");
        Due.is(0, x.copy(2, 0, 2, 0, 0), "nothing in a ROW of 0");
        Due.is(-13, x.copy(2, 0, 1, 0, 1), "one of a ROW of 0");
        Due.is(-13, x.copy(0, 3, 1, 0, 0), "nothing far behind the last");
        Due.is(-13, x.copy(0, 0, 1, 3, 0), "nothing to far behind the last");
        Due.is(8, x.element(1, 0), "nothing came");
        Due.is(9, x.element(1, 1), "nothing came");
    }

    private static void copyWithinOneRow() {
        Due.says("48: the elements as they were come, within one ROW, too");
        for (int sort = 0; sort <= 2; sort++) {
            NeedleCharts x = new NeedleCharts();
            Due.numbers(x, 0, sort, 1, 2, 3, 4, 5, 6);
            Due.is(4, x.copy(0, 0, 0, 2, 4), "on");
            int[] on = {1, 2, 1, 2, 3, 4};
            for (int i = 0; i < 6; i++) {
                Due.is(on[i], x.element(0, i), "element " + i + " behind on");
            }
            Due.is(5, x.copy(0, 1, 0, 0, 5), "back");
            int[] back = {2, 1, 2, 3, 4, 4};
            for (int i = 0; i < 6; i++) {
                Due.is(back[i], x.element(0, i), "element " + i + " behind back");
            }
        }
    }

    private static void copyRefusedChangesNothing() {
        Due.says("48: a refused call changes nothing");
        NeedleCharts x = new NeedleCharts();
        Due.numbers(x, 0, 2, 1, 2, 3);
        Due.numbers(x, 1, 2, 7, 8, 9);
        x.copy(0, 1, 1, 0, 3);
        x.copy(0, 0, 1, 1, 3);
        x.copy(0, 0, 1, 0, -1);
        for (int i = 0; i < 3; i++) {
            Due.is(7 + i, x.element(1, i), "element " + i);
        }
    }

    private static void heftsByKind() {
        String[] words = {
            "100, WEIGHT and SPAN by kind", "of SHIPS 10 times HEADING more", "of PLANS their x more",
            "of STATIONS 200 more", "of SHAKEN ones twice what a STATION's would be with their WEIGHT and SPAN",
            "100, WEIGHT and SPAN by kind",
        };
        int[] least = {128, 139, 136, 321, 698, 120};
        int[] most = {128, 139 + 70, 136 + 35, 321, 698, 120};
        NeedleCharts x = new NeedleCharts();
        Due.rule(x, "g:1");
        Due.rule(x, "p:1");
        for (int kind = 0; kind <= 5; kind++) {
            Due.says("49: " + words[kind]);
            x.keep(0, 1, x.reading(kind, 9, 17, 0, 1799, 0));
            Due.is(least[kind], x.heft(0), "HEFT of kind " + kind + " at x 0, HEADING 0");
            x.keep(0, 1, x.reading(kind, 9, 18 * 35, 0, -1800, kind == 1 ? 7 : 0));
            Due.is(most[kind], x.heft(0), "HEFT of kind " + kind + " at x 35, HEADING 7");
        }
    }

    private static void heftRefuses() {
        Due.says("49: -1, -11, -12 (a ROW)");
        NeedleCharts x = new NeedleCharts();
        for (int d : NO_SHELVES) {
            Due.is(-1, x.heft(d), "heft " + d);
        }
        Due.is(-11, x.heft(0), "nothing");
        for (int sort = 0; sort <= 2; sort++) {
            x.row(0, sort, sort);
            Due.is(-12, x.heft(0), "a ROW of sort " + sort);
        }
    }

    private static void tossesByKind() {
        Due.says("50: its SOURCE; of SHAKEN ones 100 more; -15: COPIED ones");
        NeedleCharts x = new NeedleCharts();
        for (int kind = 0; kind <= 5; kind++) {
            for (int source = 0; source <= 9; source += 9) {
                x.keep(0, 1, x.reading(kind, source, 0, 0, 0, 0));
                int due = kind == 5 ? -15 : kind == 4 ? 100 + source : source;
                Due.is(due, x.toss(0), "kind " + kind + " of SOURCE " + source);
            }
        }
    }

    private static void plansOnLandHaveNone() {
        Due.says("50: -15: PLANS on LAND now");
        NeedleCharts x = new NeedleCharts();
        for (int kind = 0; kind <= 5; kind++) {
            x.keep(kind, 1, x.reading(kind, 3, 18 * 35 + 17, 0, 0, 0));
        }
        int[] atSea = {3, 3, 3, 3, 103, -15};
        int[] onLand = {3, 3, -15, 3, 103, -15};
        x.land(34, 34, 17, true);
        x.land(35, 35, 16, true);
        for (int d = 0; d <= 5; d++) {
            Due.is(atSea[d], x.toss(d), "next to LAND, kind " + d);
        }
        x.land(35, 35, 17, true);
        for (int d = 0; d <= 5; d++) {
            Due.is(onLand[d], x.toss(d), "on LAND, kind " + d);
        }
        x.land(35, 35, 17, false);
        Due.is(3, x.toss(2), "at SEA again");
        x.keep(0, 1, x.reading(2, 4, 0, 0, 0, 0));
        x.land(0, 0, 0, true);
        Due.is(-15, x.toss(0), "at the first PLACE");
    }

    private static void tossRefuses() {
        Due.says("50: -1, -11, -12 (a ROW)");
        NeedleCharts x = new NeedleCharts();
        for (int d : NO_SHELVES) {
            Due.is(-1, x.toss(d), "toss " + d);
        }
        Due.is(-11, x.toss(7), "nothing");
        for (int sort = 0; sort <= 2; sort++) {
            x.row(7, sort, sort);
            Due.is(-12, x.toss(7), "a ROW of sort " + sort);
        }
    }
}

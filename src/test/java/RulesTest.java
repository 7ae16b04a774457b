/** Promises 9 to 16: edition, fault, rule, strike, force, counts, night, set. */
public final class RulesTest {
    public static void main(String[] args) {
        editionsGoOn();
        rulesAreRules();
        faults();
        wrongShelves();
        rulesAreWorkedOut();
        fieldsAreTheReadings();
        thirtyTwoBits();
        rulesByEditions();
        limits();
        countsRefuses();
        nights();
        settings();
        Due.end("RulesTest");
    }

    private static void editionsGoOn() {
        NeedleCharts x = new NeedleCharts();
        Due.is(0, x.edition(0), "it stays");
        Due.is(0, x.edition(5), "it goes on");
        Due.is(5, x.edition(5), "it stays");
        Due.is(-1, x.edition(4), "never back");
        Due.is(-1, x.edition(61), "beyond the last");
        Due.is(-1, x.edition(-1), "below 0");
        Due.is(5, x.edition(60), "the last");
        Due.is(60, x.count(6), "it is the last");
    }

    private static void rulesAreRules() {
        NeedleCharts x = new NeedleCharts();
        String[] good = {
            "k:0", "g:9999", "p:q", "k:k?s:d", "g:x?y?v:h:w", "g:x?y:v?h:w", "k:(n)", "k:((((((((1))))))))",
            "k:(((1))+((2)))*3", "p:1+2-3*4/5", "k:(x?1:0)?(y):(v)", "k:10", "k:x?1?2?3:4:5:6",
            "k:(((((((x?(y):2)))))))",
        };
        for (String text : good) {
            Due.text(x, 0, text);
            Due.is(-4, x.fault(0), "fault of " + text);
        }
    }

    private static void faults() {
        String[] texts = {
            "", "z", "k", "kk", "k:", "k:+", "k:1+", "k:00", "k:01", "k:12345", "k:(", "k:()", "k:(1", "k:1)", "k:(1))",
            "k:(((((((((", "k:1?", "k:1?2", "k:1?2:", "k:1:2", "k:1?2:3:4", "k:(1?2):3", "k:(1?2:3", "k:1?(2:3)",
            "k:xx", "k:x1", "k:1x", "k:(1)2", "k:(1)(", "k:x?y:z", "k: 1", "k:1+-2", "K:1", "k:1?2?3:4", "k:1+0000",
            "g:1\0", "g:\377", "g:x*(y", "g:x?1:2?3", "k:(x?1:0):2", "k:1\253", "k:1?(2?3:4:5)",
        };
        int[] places = {
            0, 0, 1, 1, 2, 2, 4, 3, 3, 6, 3, 3, 4, 3, 5,
            10, 4, 5, 6, 3, 7, 6, 8, 6,
            3, 3, 3, 5, 5, 6, 2, 4, 0, 9, 5,
            3, 2, 6, 9, 9, 3, 10,
        };
        NeedleCharts x = new NeedleCharts();
        for (int i = 0; i < texts.length; i++) {
            Due.text(x, 0, texts[i]);
            Due.is(places[i], x.fault(0), "fault of " + texts[i]);
            Due.is(-100 - places[i], x.rule(0), "rule of " + texts[i]);
        }
        Due.is(0, x.count(1), "no rules");
        longTexts();
    }

    private static void longTexts() {
        NeedleCharts x = new NeedleCharts();
        Due.text(x, 0, "k:" + "x?".repeat(39));
        Due.is(80, x.fault(0), "it ends too early at 80");
        Due.text(x, 0, "k:" + "x?".repeat(19) + "y" + ":0".repeat(19) + "+");
        Due.is(80, x.fault(0), "one sign more at 80");
        Due.text(x, 0, "k:" + "x?".repeat(19) + "y" + ":0".repeat(19));
        Due.is(-4, x.fault(0), "choices in choices");
        Due.text(x, 0, "k:" + "x?y:".repeat(19) + "h");
        Due.is(-4, x.fault(0), "choices behind choices");
        Due.text(x, 0, "k:" + "1+".repeat(38) + "1");
        Due.is(-4, x.fault(0), "many sums");
    }

    private static void wrongShelves() {
        NeedleCharts x = new NeedleCharts();
        x.reading(0, 0, 0, 0, 0, 0);
        x.keep(1, 1, 0);
        x.row(2, 1, 3);
        int[] shelves = {-1, 8, 0, 1, 2};
        int[] answers = {-1, -1, -11, -12, -12};
        for (int i = 0; i < shelves.length; i++) {
            Due.is(answers[i], x.fault(shelves[i]), "fault " + shelves[i]);
            Due.is(answers[i], x.rule(shelves[i]), "rule " + shelves[i]);
        }
        for (int i = 0; i < 20; i++) {
            Due.is(i, Due.rule(x, "k:0"), "rule " + i);
        }
        Due.is(20, x.count(1), "rules");
        Due.is(-1, x.rule(8), "no shelf is ahead of no room");
        Due.is(-2, x.rule(0), "no room is ahead of nothing held");
        Due.is(-2, x.rule(2), "no room is ahead of another kind");
        Due.is(-2, x.rule(7), "no room");
    }

    /** The SPAN that a text makes of a SHIP with HEADING 6, SOURCE 2 at x 7, y 3, VALUE 90, DAY 1000. */
    private static int worked(String expr) {
        NeedleCharts x = new NeedleCharts();
        x.reading(1, 2, 129, 1000, 90, 6);
        Due.rule(x, "p:" + expr);
        return x.counts(0, 1, 0);
    }

    private static void rulesAreWorkedOut() {
        Due.is(14, worked("20-3-3"), "from the left");
        Due.is(20, worked("100/5*1"), "from the left");
        Due.is(7, worked("1+2*3"), "products are ahead");
        Due.is(9, worked("(1+2)*3"), "brackets are ahead of them");
        Due.is(33, worked("100/3"), "cut");
        Due.is(50, worked("50+(0-1)/2"), "cut toward 0");
        Due.is(50, worked("50+7/0"), "by 0 it is 0");
        Due.is(50, worked("50+7/(x-7)*9"), "by 0 it is 0 in a product");
        Due.is(11, worked("1?11:22"), "above 0");
        Due.is(22, worked("0?11:22"), "0");
        Due.is(22, worked("3-5?11:22"), "below 0");
        Due.is(4, worked("1?0?3:4:5"), "a choice within a choice");
        Due.is(5, worked("0?1:0?4:5"), "a choice behind a choice");
        Due.is(15, worked("10+(0?1:5)"), "a choice in brackets");
        Due.is(12, worked("1?2+10:3*9"), "sums in a choice");
        Due.is(27, worked("0?2+10:3*9"), "products in a choice");
        Due.is(8, worked("0+1?8:9"), "the whole sum is asked");
        Due.is(44, worked("((((((((4))))))))+(5*8)"), "deep");
        Due.is(6, worked("2*3*4/4"), "products from the left");
        Due.is(34, worked("9*4-2"), "a product, then less");
        Due.is(23, worked("x?y?23:24:25"), "of fields");
    }

    private static void fieldsAreTheReadings() {
        Due.is(21, worked("k+20"), "k");
        Due.is(22, worked("s+20"), "s");
        Due.is(22, worked("d+20"), "d: 1000 by 365, cut");
        Due.is(7, worked("x"), "x");
        Due.is(3, worked("y"), "y");
        Due.is(90, worked("v"), "v");
        Due.is(6, worked("h"), "h");
        Due.is(4, worked("w"), "w by kind");
        Due.is(35, worked("q"), "q by kind");
        Due.is(20, worked("n+20"), "n");
        NeedleCharts x = new NeedleCharts();
        Due.rule(x, "p:n*50+h+k");
        Due.rule(x, "g:q");
        x.set(0, 1);
        x.set(1, 0);
        x.reading(3, 0, 0, 500, 10, 0);
        x.reading(3, 0, 0, 600, 20, 0);
        x.reading(5, 0, 90, 600, 10, 0);
        Due.is(53, x.counts(0, 1, 0), "n on a night, no heading");
        Due.is(55, x.counts(2, 1, 0), "n for others of that day");
        Due.is(20, x.counts(2, 0, 0), "w is 0, q is 20");
    }

    private static void thirtyTwoBits() {
        Due.is(1800, worked("9999*9999*44"), "wraps to what is above all");
        Due.is(1, worked("9999*9999*22"), "wraps to below 0");
        Due.is(905, worked("9999*9999*22/1000/1000+3000"), "works on with it");
        int smallest = 4096 * 4096 * 128;
        Due.is(Integer.MIN_VALUE, smallest, "the smallest number");
        Due.is(1, worked("4096*4096*128/(0-1)"), "its own opposite");
        Due.is(7, worked("4096*4096*128-1?7:8"), "one below it is above 0");
    }

    private static void rulesByEditions() {
        NeedleCharts x = new NeedleCharts();
        x.reading(0, 0, 0, 0, 0, 0);
        Due.is(-4, x.force(1, 0), "none at first");
        x.edition(2);
        Due.is(0, Due.rule(x, "g:20"), "in 2");
        x.edition(4);
        Due.is(1, Due.rule(x, "g:40"), "in 4");
        Due.is(2, Due.rule(x, "k:s"), "in 4");
        x.edition(6);
        Due.is(1, x.strike(1), "struck in 6");
        x.edition(8);
        int[] inForce = {-4, -4, 0, 0, 1, 1, 0, 0, 0};
        int[] weights = {8, 8, 20, 20, 40, 40, 20, 20, 20};
        for (int e = 0; e <= 8; e++) {
            Due.is(inForce[e], x.force(1, e), "force by " + e);
            Due.is(weights[e], x.counts(0, 0, e), "weight by " + e);
        }
        Due.is(-4, x.force(0, 3), "k in 3");
        Due.is(2, x.force(0, 4), "k in 4");
        Due.is(-4, x.force(2, 8), "p");
        Due.is(-1, x.force(1, 9), "above the edition");
        Due.is(-1, x.force(1, -1), "below 0");
        Due.is(-1, x.force(3, 0), "purpose 3");
        Due.is(-1, x.force(-1, 0), "purpose -1");
        Due.is(-3, x.strike(1), "it was");
        Due.is(-1, x.strike(3), "no such rule");
        Due.is(-1, x.strike(-1), "rule -1");
        Due.is(1, x.strike(0), "the other one");
        Due.is(8, x.counts(0, 0, 8), "then by kind");
        x.edition(60);
        Due.is(4, Due.rule(x, "p:50") + 1, "in 60");
        Due.is(3, x.force(2, 60), "in force by 60");
        Due.is(1, x.strike(3), "struck in 60");
        Due.is(-4, x.force(2, 60), "no more");
        Due.is(20, x.counts(0, 0, 7), "but not by 7");
    }

    private static void limits() {
        NeedleCharts x = new NeedleCharts();
        x.reading(3, 0, 0, 0, 0, 0);
        Due.rule(x, "g:100");
        Due.is(100, x.counts(0, 0, 0), "100");
        Due.rule(x, "g:101");
        Due.is(100, x.counts(0, 0, 0), "101 is 100");
        Due.rule(x, "g:0-1");
        Due.is(0, x.counts(0, 0, 0), "-1 is 0");
        Due.rule(x, "g:77");
        Due.rule(x, "k:0-1");
        Due.is(0, x.counts(0, 0, 0), "struck by what is below 0");
        Due.is(1, x.count(8), "it weighs nothing");
        Due.is(5, x.counts(0, 1, 0), "its span stays");
        Due.rule(x, "k:0");
        Due.is(77, x.counts(0, 0, 0), "not struck");
        Due.rule(x, "p:0");
        Due.is(1, x.counts(0, 1, 0), "a span of 0 is 1");
        Due.rule(x, "p:1801");
        Due.is(1800, x.counts(0, 1, 0), "1801 is 1800");
    }

    private static void countsRefuses() {
        NeedleCharts x = new NeedleCharts();
        int[] weights = {8, 4, 6, 16, 4, 0};
        int[] spans = {20, 35, 30, 5, 45, 20};
        x.edition(3);
        for (int kind = 0; kind <= 5; kind++) {
            x.reading(kind, 0, 0, 0, 0, 0);
            Due.is(weights[kind], x.counts(kind, 0, 3), "weight of kind " + kind);
            Due.is(spans[kind], x.counts(kind, 1, 3), "span of kind " + kind);
        }
        Due.is(-3, x.counts(0, 0, 2), "not known by then");
        Due.is(-1, x.counts(0, 2, 2), "not as told is ahead of it");
        Due.is(-1, x.counts(0, 0, 4), "above the edition");
        Due.is(-1, x.counts(0, 0, -1), "below 0");
        Due.is(-1, x.counts(0, -1, 3), "what -1");
        Due.is(-1, x.counts(6, 0, 3), "no such reading");
        Due.is(-1, x.counts(-1, 0, 3), "reading -1");
    }

    private static void nights() {
        NeedleCharts x = new NeedleCharts();
        x.reading(3, 0, 5, 100, 0, 0);
        x.reading(4, 0, 5, 101, 62, 0);
        x.reading(3, 0, 5, 101, 64, 0);
        x.reading(3, 0, 6, 101, 0, 0);
        x.reading(3, 0, 6, 300, -61, 0);
        x.reading(0, 0, 7, 101, 0, 0);
        x.reading(0, 0, 7, 100, 900, 0);
        // the mean of place 5 is 42, of place 6 it is -30 (cut); readings at place 7 are no stations'
        Due.is(0, x.night(0), "day 100 has one place that strays (42)");
        Due.is(0, x.night(1), "day 101: 20, 22 and 30 are not more than 30");
        x.set(1, 29);
        Due.is(0, x.night(1), "day 101 has one place");
        x.set(1, 21);
        Due.is(1, x.night(1), "day 101 has two places");
        Due.is(1, x.night(5), "for any reading of that day");
        Due.is(0, x.night(6), "not for those of others");
        Due.is(0, x.night(4), "nor here");
        x.set(0, 1);
        Due.is(1, x.night(4), "one is enough");
        Due.is(1, x.night(0), "here too");
        x.set(1, 31);
        Due.is(0, x.night(4), "31 is not more than 31");
        x.set(0, 2);
        x.set(1, 21);
        x.reading(4, 0, 5, 900, -1800, 0);
        Due.is(1, x.night(0) + x.night(1), "a new reading moves the mean");
        Due.is(-1, x.night(8), "no such reading");
        Due.is(-1, x.night(-1), "reading -1");
        samePlaceCountsOnce();
        nightsAreFoundAnew();
    }

    private static void nightsAreFoundAnew() {
        NeedleCharts x = new NeedleCharts();
        x.reading(3, 0, 5, 100, 0, 0);
        x.reading(3, 0, 5, 101, 100, 0);
        x.reading(3, 0, 6, 100, 0, 0);
        x.image();
        Due.is(0, x.night(0), "one place strays");
        x.reading(4, 0, 6, 101, 100, 0);
        for (int i = 0; i < 3; i++) {
            x.set(1, 30 + i);
            Due.is(1, x.night(0), "two places stray, the " + i + "-th time");
        }
        x.restore();
        Due.is(0, x.night(0), "one place strays, as then");
    }

    private static void samePlaceCountsOnce() {
        NeedleCharts x = new NeedleCharts();
        x.reading(3, 0, 5, 100, 500, 0);
        x.reading(3, 1, 5, 100, -500, 0);
        x.reading(4, 2, 5, 100, 700, 0);
        Due.is(0, x.night(0), "three readings at one place");
        x.edition(9);
        x.reading(3, 2, 9, 100, 0, 0);
        x.reading(3, 2, 9, 7, 100, 0);
        Due.is(1, x.night(0), "a second place, come in a later edition");
        Due.rule(x, "k:n");
        Due.is(4, x.count(8), "all of that night are struck");
        Due.is(0, x.night(4), "and not the one of another day");
    }

    private static void settings() {
        NeedleCharts x = new NeedleCharts();
        int[][] good = {{0, 1, 2}, {0, 9, 1}, {1, 0, 30}, {1, 999, 0}, {2, 0, 0}, {2, 1000, 0}, {0, 9, 9}, {2, 3, 1000}};
        for (int[] g : good) {
            Due.is(g[2], x.set(g[0], g[1]), "set " + g[0] + " " + g[1]);
        }
        int[][] wrong = {{0, 0}, {0, 10}, {1, -1}, {1, 1000}, {2, -1}, {2, 1001}, {-1, 1}, {3, 1}};
        for (int[] w : wrong) {
            Due.is(-1, x.set(w[0], w[1]), "set " + w[0] + " " + w[1]);
        }
        Due.is(9, x.set(0, 2), "a refused call changes nothing");
    }
}

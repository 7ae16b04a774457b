/** Promises 41 to 43: image, restore, count. */
public final class ImageTest {
    public static void main(String[] args) {
        allIsAsItWas();
        whatIsThenForgotten();
        theImageStays();
        shelvesAreNotInIt();
        countsOfAll();
        Due.end("ImageTest");
    }

    private static NeedleCharts furnished() {
        NeedleCharts x = new NeedleCharts();
        x.edition(2);
        x.land(0, 9, 3, true);
        x.reading(3, 1, 90, 1000, 100, 0);
        x.reading(3, 1, 90, 1000, 20, 0);
        x.reading(1, 4, 200, 1000, 50, 3);
        Due.rule(x, "g:33");
        Due.rule(x, "g:44");
        x.strike(1);
        x.voyage(1, 1);
        x.leg(0, 3, 3);
        x.epoch(0);
        x.number(0, 0, 12);
        x.iron(4, 3, 5);
        x.chart(0);
        x.offer(5, 5, 10);
        x.set(2, 6);
        return x;
    }

    private static long[] answers(NeedleCharts x) {
        return new long[] {
            x.count(0), x.count(1), x.count(2), x.count(3), x.count(4), x.count(5), x.count(6), x.count(7), x.count(8),
            x.value(0), x.about(2, 5), x.counts(0, 0, 2), x.counts(0, 1, 2), x.force(1, 2), x.night(0),
            x.closed(0, 0, 0), x.closed(0, 0, 1), x.shift(0), x.told(0, 0), x.field(3, 3, 500), x.misfit(2), x.cost(2),
            x.rival(0, 1), x.peace(0), x.off(0, 0, 0, true), x.off(0, 0, 0, false), x.next(999, 0), x.next(999, 2),
            x.closed(0, 1, 0),
        };
    }

    private static void allIsAsItWas() {
        NeedleCharts x = furnished();
        Due.is(2, x.image(), "the edition of the image");
        x.edition(50);
        x.land(0, 35, 4, true);
        x.land(0, 3, 3, false);
        x.reading(4, 1, 91, 1000, 900, 0);
        x.reading(4, 1, 91, 1, -900, 0);
        x.strike(0);
        Due.rule(x, "p:50");
        x.sight(0, 9, 9);
        x.leg(0, 1, 1);
        x.voyage(2, 2);
        x.number(0, 0, 99);
        x.epoch(1000);
        x.number(1, 2, 999);
        x.iron(4, 3, 500);
        x.chart(700);
        x.offer(25, 5, 10);
        x.set(0, 1);
        x.set(1, 7);
        x.set(2, 700);
        Due.is(2, x.restore(), "the edition of what is restored");
        same(furnished(), x);
        Due.is(2, x.set(0, 2), "many");
        Due.is(30, x.set(1, 30), "bound");
        Due.is(6, x.set(2, 6), "smooth");
        Due.is(1, x.strike(0), "the rule that was struck later is not");
        Due.is(-3, x.strike(1), "the one that was is");
        Due.is(2, x.leg(0, 1, 1), "the voyage goes on from one leg");
        Due.is(505505, x.closed(0, 1, 0), "and is open still");
    }

    private static void same(NeedleCharts want, NeedleCharts got) {
        long[] a = answers(want);
        long[] b = answers(got);
        for (int i = 0; i < a.length; i++) {
            Due.is(a[i], b[i], "answer " + i + " of what is restored");
        }
    }

    private static void whatIsThenForgotten() {
        NeedleCharts x = new NeedleCharts();
        Due.is(-3, x.restore(), "no image");
        x.image();
        for (int i = 0; i < 80; i++) {
            x.reading(0, 0, 0, 0, 0, 0);
        }
        x.epoch(7);
        x.number(0, 0, 5);
        x.number(0, 1, 5);
        x.restore();
        Due.is(0, x.count(0), "no readings");
        Due.is(0, x.reading(5, 9, 1, 1, 1, 0), "numbers begin anew");
        Due.is(5, x.about(0, 0), "with another reading");
        Due.illegal(() -> x.value(1), "no second one");
        Due.is(0, x.epoch(3), "an earlier epoch");
        Due.is(0, x.told(0, 0) + x.told(0, 1), "whose numbers are 0");
        longVoyages();
    }

    private static void longVoyages() {
        NeedleCharts x = new NeedleCharts();
        x.voyage(0, 0);
        for (int i = 0; i < 29; i++) {
            x.leg(0, 1, 1);
        }
        x.image();
        x.sight(0, 35, 0);
        Due.is(535500, x.closed(0, 29, 0), "closed at the sight");
        x.restore();
        Due.is(529529, x.closed(0, 28, 0), "open again");
        Due.is(29, x.closed(0, 28, 1), "with its span");
        Due.is(30, x.leg(0, 0, 0), "and with room for a last leg");
    }

    private static void theImageStays() {
        NeedleCharts x = new NeedleCharts();
        x.edition(1);
        x.reading(0, 0, 0, 0, 0, 0);
        x.image();
        for (int i = 0; i < 3; i++) {
            x.edition(5);
            x.reading(0, 0, 0, 0, 1, 0);
            x.epoch(4);
            x.number(0, 0, 8);
            Due.is(1, x.restore(), "restored again");
            Due.is(1, x.count(0), "one reading");
            Due.is(0, x.count(3), "no epoch");
        }
        x.edition(9);
        Due.is(9, x.image(), "another image");
        x.edition(60);
        Due.is(9, x.restore(), "the later one");
    }

    private static void shelvesAreNotInIt() {
        NeedleCharts x = new NeedleCharts();
        x.row(0, 2, 3);
        x.image();
        x.reading(1, 4, 0, 0, 0, 6);
        x.reading(2, 3, 18 * 9, 0, 0, 0);
        x.keep(1, 1, 0);
        x.keep(2, 1, 1);
        x.put(0, 1, 77);
        x.restore();
        Due.is(77, x.element(0, 1), "the row is as it is");
        Due.is(0, x.count(0), "the readings are no more");
        x.reading(3, 9, 0, 0, 0, 0);
        Due.is(139 + 60, x.heft(1), "but the shelf holds its own still");
        Due.is(4, x.toss(1), "with its source");
        Due.is(3, x.toss(2), "a plan at sea");
        x.land(9, 9, 0, true);
        Due.is(-15, x.toss(2), "a plan on land now");
    }

    private static void countsOfAll() {
        NeedleCharts x = furnished();
        int[] counts = {3, 2, 1, 1, 1, 1, 2, 10, 0};
        for (int what = 0; what <= 8; what++) {
            Due.is(counts[what], x.count(what), "count(" + what + ")");
        }
        x.reading(5, 0, 0, 0, 0, 0);
        Due.is(0, x.count(8), "a copied one weighs 33 by the rule");
        x.strike(0);
        Due.is(1, x.count(8), "and nothing without it");
        Due.is(-1, x.count(9), "9");
        Due.is(-1, x.count(-1), "-1");
    }
}

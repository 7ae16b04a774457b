/** Promises 41 to 43 and what the terms say of THE IMAGE: a test for each sentence that names a boundary. */
public final class BoundsOfImageTest {
    private static final int MIN = Integer.MIN_VALUE;
    private static final int MAX = Integer.MAX_VALUE;

    public static void main(String[] args) {
        restoreNeedsAnImage();
        imageTellsTheEdition();
        restoredTwice();
        theLastImageCounts();
        theImageIsNotInIt();
        shelvesAreNotInIt();
        theEditionGoesBack();
        landGoesBack();
        readingsGoBack();
        rulesGoBack();
        settingsAndNightsGoBack();
        voyagesGoBack();
        openLegsGoBack();
        longVoyagesGoBack();
        epochsGoBack();
        allNumbersGoBack();
        ironGoesBack();
        chartsGoBack();
        offersGoBack();
        whatIsLeftOutComesBackToo();
        fullThingsHaveRoomAgain();
        countHasItsEnds();
        countsOfFullThings();
        countOfReadingsWithWeight0();
        Due.end("BoundsOfImageTest");
    }

    private static void restoreNeedsAnImage() {
        Due.says("42: -3: there is none");
        NeedleCharts x = new NeedleCharts();
        x.reading(0, 0, 0, 0, 0, 0);
        x.edition(7);
        Due.is(-3, x.restore(), "restore");
        Due.is(7, x.count(6), "a refused call changes nothing");
        Due.is(1, x.count(0), "a refused call changes nothing");
        Due.is(7, x.image(), "image");
        Due.is(7, x.restore(), "restore");
    }

    private static void imageTellsTheEdition() {
        Due.says("41, 42: the EDITION");
        NeedleCharts x = new NeedleCharts();
        Due.is(0, x.image(), "at first");
        Due.is(0, x.restore(), "at first");
        x.edition(60);
        Due.is(0, x.restore(), "as it was then");
        x.edition(60);
        Due.is(60, x.image(), "the last");
        Due.is(60, x.restore(), "the last");
    }

    private static void restoredTwice() {
        Due.says("RESTORED all is as it was then, each time");
        NeedleCharts x = new NeedleCharts();
        x.image();
        for (int i = 0; i < 3; i++) {
            x.land(0, 35, 0, true);
            x.reading(0, 0, 0, 0, 5, 0);
            x.voyage(0, 0);
            x.epoch(5);
            x.number(0, 0, 7);
            x.offer(0, 0, 1);
            Due.is(0, x.restore(), "the " + i + "-th time");
            for (int what = 0; what <= 8; what++) {
                Due.is(0, x.count(what), "count " + what + " the " + i + "-th time");
            }
            Due.is(0, x.field(0, 0, 0), "field");
        }
        Due.is(0, x.restore(), "at once again");
    }

    private static void theLastImageCounts() {
        Due.says("41: THE IMAGE is taken");
        NeedleCharts x = new NeedleCharts();
        x.land(0, 0, 0, true);
        x.image();
        x.land(1, 2, 0, true);
        x.image();
        x.land(3, 9, 0, true);
        x.restore();
        Due.is(3, x.count(7), "the second one");
    }

    private static void theImageIsNotInIt() {
        Due.says("THE IMAGE: all that there is, but (THE IMAGE)");
        NeedleCharts x = new NeedleCharts();
        x.image();
        x.restore();
        x.land(0, 4, 0, true);
        Due.is(0, x.restore(), "THE IMAGE is there still");
        Due.is(0, x.count(7), "as it was then");
    }

    private static void shelvesAreNotInIt() {
        Due.says("THE IMAGE: all that there is, but SHELVES");
        NeedleCharts x = new NeedleCharts();
        x.reading(3, 6, 0, 0, 0, 0);
        x.keep(0, 1, 0);
        x.row(1, 2, 2);
        x.put(1, 1, 5);
        x.image();
        x.keep(0, 0, 0);
        x.put(1, 1, 6);
        x.row(2, 0, 1);
        x.reading(1, 2, 0, 0, 0, 3);
        x.keep(3, 1, 1);
        x.restore();
        Due.is(-11, x.heft(0), "what was emptied stays so");
        Due.is(6, x.element(1, 1), "what was put stays");
        Due.is(0, x.element(2, 0), "what came stays");
        Due.is(139 + 30, x.heft(3), "a READING that is no more stays on its SHELF");
        Due.is(2, x.toss(3), "and its FAILURE");
        x.reading(5, 4, 0, 0, 0, 0);
        Due.is(139 + 30, x.heft(3), "another one of its number is not it");
        Due.is(-1, x.keep(4, 1, 2), "there is no third one");
    }

    private static void theEditionGoesBack() {
        Due.says("the EDITION as it was then");
        NeedleCharts x = new NeedleCharts();
        x.edition(3);
        x.image();
        x.edition(60);
        Due.is(-1, x.edition(59), "never back");
        x.restore();
        Due.is(3, x.edition(4), "on from 3");
        Due.is(-1, x.force(0, 5), "5 is above it");
    }

    private static void landGoesBack() {
        Due.says("LAND as it was then");
        NeedleCharts x = new NeedleCharts();
        for (int y = 0; y < 18; y++) {
            x.land(y, y, y, true);
        }
        x.image();
        for (int y = 0; y < 18; y++) {
            x.land(0, 35, y, y % 2 == 0);
        }
        x.restore();
        Due.is(18, x.count(7), "LAND");
        for (int y = 0; y < 18; y++) {
            Due.is(0, x.land(y, y, y, true), "LAND in row " + y);
        }
    }

    private static void readingsGoBack() {
        Due.says("READINGS as they were then");
        NeedleCharts x = new NeedleCharts();
        x.reading(1, 2, 3, 4, 5, 6);
        x.image();
        x.reading(3, 0, 0, 0, 0, 0);
        x.restore();
        Due.is(1, x.count(0), "READINGS");
        Due.is(5, x.value(0), "the one");
        Due.illegal(() -> x.value(1), "not the other");
        Due.is(-1, x.about(1, 0), "not the other");
        Due.is(-1, x.night(1), "not the other");
        Due.is(1, x.reading(2, 0, 0, 0, 77, 0), "its number is told anew");
        Due.is(2, x.about(1, 0), "of another KIND");
        Due.is(77, x.value(1), "and VALUE");
    }

    private static void rulesGoBack() {
        Due.says("RULES as they were then, told and STRUCK");
        NeedleCharts x = new NeedleCharts();
        x.reading(0, 0, 0, 0, 0, 0);
        Due.rule(x, "g:11");
        Due.rule(x, "g:22");
        x.strike(1);
        x.image();
        x.strike(0);
        Due.rule(x, "g:33");
        Due.is(33, x.counts(0, 0, 0), "by the third");
        x.restore();
        Due.is(2, x.count(1), "RULES");
        Due.is(11, x.counts(0, 0, 0), "by the first");
        Due.is(-1, x.strike(2), "no third one");
        Due.is(-3, x.strike(1), "the second was STRUCK");
        Due.is(1, x.strike(0), "the first was not");
        Due.is(2, Due.rule(x, "p:44"), "its number is told anew");
        Due.is(44, x.counts(0, 1, 0), "for another PURPOSE");
        Due.is(8, x.counts(0, 0, 0), "and no more for its own");
    }

    private static void settingsAndNightsGoBack() {
        Due.says("MANY, BOUND, SMOOTH as they were then, and NIGHTS by them");
        NeedleCharts x = new NeedleCharts();
        x.reading(3, 0, 0, 0, 0, 0);
        x.reading(3, 0, 0, 9, 100, 0);
        x.set(0, 1);
        x.set(1, 49);
        x.set(2, 7);
        Due.is(1, x.night(0), "50 is more than 49");
        x.image();
        x.set(1, 50);
        x.set(0, 9);
        x.set(2, 9);
        Due.is(0, x.night(0), "50 is not more than 50");
        x.restore();
        Due.is(1, x.night(0), "50 is more than 49");
        x.reading(3, 0, 0, 9, -100, 0);
        Due.is(0, x.night(0), "the mean is 0");
        x.restore();
        Due.is(1, x.night(0), "the mean is 50");
        Due.is(1, x.set(0, 2), "MANY");
        Due.is(49, x.set(1, 2), "BOUND");
        Due.is(7, x.set(2, 2), "SMOOTH");
    }

    private static int at(int x, int y) {
        return 1000 * (x + 500) + y + 500;
    }

    private static void voyagesGoBack() {
        Due.says("VOYAGES as they were then");
        NeedleCharts x = new NeedleCharts();
        x.voyage(5, 5);
        x.leg(0, 2, 2);
        x.image();
        x.leg(0, 2, 2);
        x.sight(0, 20, 17);
        x.voyage(9, 9);
        Due.is(at(12, 11), x.closed(0, 0, 0), "as CLOSED");
        x.restore();
        Due.is(1, x.count(2), "VOYAGES");
        Due.is(at(7, 7), x.closed(0, 0, 0), "as RECKONED");
        Due.is(-1, x.closed(0, 1, 0), "one LEG");
        Due.is(-1, x.shift(1), "no second VOYAGE");
        Due.is(1, x.voyage(1, 2), "its number is told anew");
        Due.is(at(1, 2), x.closed(1, -1, 0), "it begins elsewhere");
        Due.is(-1, x.closed(1, 0, 0), "without LEGS");
    }

    private static void openLegsGoBack() {
        Due.says("VOYAGES as they were then, LEGS that no SIGHT has closed, too");
        NeedleCharts x = new NeedleCharts();
        x.voyage(5, 5);
        x.leg(0, 2, 0);
        x.leg(0, 2, 0);
        x.image();
        x.sight(0, 5, 5);
        x.restore();
        Due.is(1, x.closed(0, 0, 1), "SPAN of the first");
        Due.is(2, x.closed(0, 1, 1), "SPAN of the second");
        Due.is(3, x.sight(0, 9, 9), "a SIGHT");
        Due.is(at(7, 7), x.closed(0, 0, 0), "closes the first");
        Due.is(at(9, 9), x.closed(0, 1, 0), "and the second");
        Due.is(0, x.closed(0, 1, 1), "which is at the SIGHT");
        x.image();
        x.leg(0, 1, 1);
        x.restore();
        x.leg(0, 3, 3);
        Due.is(1, x.closed(0, 3, 1), "one LEG since the SIGHT");
    }

    private static void longVoyagesGoBack() {
        Due.says("VOYAGES as they were then, all of their LEGS");
        NeedleCharts x = new NeedleCharts();
        for (int v = 0; v < 6; v++) {
            x.voyage(v, 0);
        }
        for (int i = 0; i < 29; i++) {
            x.leg(5, 1, 1);
        }
        x.image();
        x.sight(5, 0, 17);
        x.restore();
        for (int i = 0; i < 29; i++) {
            Due.is(at(6 + i, 1 + i), x.closed(5, i, 0), "behind LEG " + i);
            Due.is(i + 1, x.closed(5, i, 1), "SPAN of LEG " + i);
        }
        Due.is(-1, x.closed(5, 29, 0), "there is no thirtieth");
        Due.is(30, x.leg(5, 1, 1), "there is room for it");
        x.image();
        x.restore();
        Due.is(at(35, 30), x.closed(5, 29, 0), "the thirtieth");
        Due.is(30, x.closed(5, 29, 1), "its SPAN");
    }

    private static void allNumbersGoBack() {
        Due.says("EPOCHS and their NUMBERS as they were then, all of them");
        NeedleCharts x = new NeedleCharts();
        for (int epoch = 0; epoch < 4; epoch++) {
            x.epoch(10 * epoch);
            for (int which = 0; which < 4; which++) {
                x.number(epoch, which, 10 * epoch + which + 1);
            }
        }
        x.chart(30);
        x.image();
        for (int epoch = 0; epoch < 4; epoch++) {
            for (int which = 0; which < 4; which++) {
                x.number(epoch, which, -50);
            }
        }
        x.restore();
        for (int epoch = 0; epoch < 4; epoch++) {
            for (int which = 0; which < 4; which++) {
                Due.is(10 * epoch + which + 1, x.told(epoch, which), "NUMBER " + which + " of EPOCH " + epoch);
            }
            Due.is(10 * epoch + 1, x.field(0, 0, 10 * epoch), "on the DAY of EPOCH " + epoch);
        }
        Due.is(0, x.off(0, 0, 30, false), "the CHART's own, too");
        Due.is(0, x.off(0, 0, 30, true), "the CHART's own, too");
    }

    private static void epochsGoBack() {
        Due.says("EPOCHS and their NUMBERS as they were then");
        NeedleCharts x = new NeedleCharts();
        x.epoch(100);
        x.number(0, 3, 33);
        x.image();
        x.number(0, 3, 44);
        x.epoch(200);
        x.number(1, 0, 55);
        x.restore();
        Due.is(1, x.count(3), "EPOCHS");
        Due.is(33, x.told(0, 3), "the NUMBER");
        Due.illegal(() -> x.told(1, 0), "no second EPOCH");
        Due.is(-1, x.epoch(100), "no later DAY");
        Due.is(1, x.epoch(101), "a DAY ahead of the one that is no more");
        Due.is(0, x.told(1, 0), "0 at first");
        Due.is(0, x.field(0, 0, 150), "field");
    }

    private static void ironGoesBack() {
        Due.says("IRON as it was then");
        NeedleCharts x = new NeedleCharts();
        x.iron(0, 0, 5);
        x.iron(9, 7, 6);
        x.image();
        x.iron(0, 0, 7);
        x.iron(9, 7, 8);
        x.iron(4, 4, 9);
        x.restore();
        Due.is(0, x.iron(0, 0, 5), "the first");
        Due.is(0, x.iron(9, 7, 6), "the last");
        Due.is(0, x.iron(4, 4, 0), "the one that came since");
    }

    private static void chartsGoBack() {
        Due.says("CHARTS as they were then");
        NeedleCharts x = new NeedleCharts();
        x.epoch(0);
        x.number(0, 0, 10);
        x.chart(0);
        x.image();
        x.number(0, 0, 20);
        x.chart(0);
        x.restore();
        Due.is(1, x.count(4), "CHARTS");
        Due.illegal(() -> x.off(1, 0, 0, true), "no second one");
        Due.is(0, x.off(0, 0, 0, true), "the first, by the FIELD as it was");
        x.number(0, 0, 50);
        Due.is(40, x.off(0, 0, 0, true), "10 of its own");
        Due.is(1, x.chart(7), "its number is told anew");
        x.number(0, 0, 60);
        Due.is(10, x.off(1, 0, 0, true), "50 of its own");
    }

    private static void offersGoBack() {
        Due.says("PLACES that are offered as they were then");
        NeedleCharts x = new NeedleCharts();
        x.offer(0, 0, 5);
        x.image();
        x.offer(10, 10, 6);
        Due.is(106, x.next(99, 0), "both");
        x.restore();
        Due.is(1, x.count(5), "one");
        Due.is(25, x.next(99, 0), "SEEN from one");
        Due.is(2, x.offer(35, 0, 7), "another second one");
        Due.is(50, x.next(99, 0), "SEEN from both");
        Due.is(12, x.next(99, 2), "what they cost");
    }

    /** What was more then comes back: here an object's own second life overwrites all of it meanwhile. */
    private static void whatIsLeftOutComesBackToo() {
        Due.says("RESTORED all is as it was then");
        NeedleCharts x = new NeedleCharts();
        x.image();
        x.voyage(1, 1);
        x.leg(0, 1, 1);
        x.epoch(9);
        x.chart(9);
        x.offer(1, 1, 1);
        x.reading(0, 0, 0, 0, 1, 0);
        x.restore();
        x.voyage(2, 2);
        x.sight(0, 3, 3);
        x.epoch(7);
        x.number(0, 1, 10);
        x.chart(7);
        x.offer(20, 9, 2);
        x.reading(3, 0, 0, 0, 2, 0);
        x.image();
        x.sight(0, 4, 4);
        x.number(0, 1, 20);
        x.restore();
        Due.is(at(2, 2), x.closed(0, -1, 0), "the VOYAGE");
        Due.is(at(3, 3), x.closed(0, 0, 0), "its SIGHT");
        Due.is(-1, x.closed(0, 1, 0), "and no more");
        Due.is(10, x.told(0, 1), "the NUMBER");
        Due.is(0, x.off(0, 18 * 5, 7, true), "the CHART");
        Due.is(2, x.next(9, 2), "what is offered");
        Due.is(81, x.next(9, 0), "what is SEEN");
        Due.is(2, x.value(0), "the READING");
        Due.is(16, x.counts(0, 0, 0), "its KIND");
    }

    private static void fullThingsHaveRoomAgain() {
        Due.says("RESTORED there is as much room as there was then");
        NeedleCharts x = new NeedleCharts();
        x.epoch(0);
        x.voyage(0, 0);
        x.image();
        for (int i = 0; i < 80; i++) {
            x.reading(0, 0, 0, 0, 0, 0);
        }
        for (int i = 0; i < 30; i++) {
            x.leg(0, 0, 0);
        }
        for (int i = 0; i < 8; i++) {
            x.voyage(0, 0);
            x.epoch(i + 1);
            x.chart(0);
            x.offer(0, 0, 1);
        }
        Due.text(x, 0, "k:0");
        for (int i = 0; i < 20; i++) {
            x.rule(0);
        }
        int[] full = {80, 20, 6, 4, 6, 8};
        int[] then = {0, 0, 1, 1, 0, 0};
        for (int what = 0; what <= 5; what++) {
            Due.is(full[what], x.count(what), "full: " + what);
        }
        x.restore();
        for (int what = 0; what <= 5; what++) {
            Due.is(then[what], x.count(what), "as it was then: " + what);
        }
        Due.is(0, x.reading(0, 0, 0, 0, 0, 0), "a READING");
        Due.is(0, x.rule(0), "a RULE");
        Due.is(1, x.leg(0, 0, 0), "a LEG");
        Due.is(1, x.voyage(0, 0), "a VOYAGE");
        Due.is(1, x.epoch(1), "an EPOCH");
        Due.is(0, x.chart(0), "a CHART");
        Due.is(1, x.offer(0, 0, 1), "an offer");
    }

    private static void countHasItsEnds() {
        Due.says("43: -1 for others");
        NeedleCharts x = new NeedleCharts();
        for (int none : new int[] {-1, -2, 9, 10, MIN, MAX}) {
            Due.is(-1, x.count(none), "count " + none);
        }
    }

    private static void countsOfFullThings() {
        Due.says("43: READINGS, RULES, VOYAGES, EPOCHS, CHARTS, PLACES offered, the EDITION, PLACES that are LAND");
        NeedleCharts x = new NeedleCharts();
        Due.text(x, 0, "k:0");
        for (int i = 1; i <= 8; i++) {
            x.reading(0, 0, 0, 0, 0, 0);
            x.rule(0);
            x.voyage(0, 0);
            x.epoch(i);
            x.chart(0);
            x.offer(0, 0, 1);
            x.edition(7 * i);
            x.land(0, i - 1, 0, true);
            int[] due = {i, i, Math.min(6, i), Math.min(4, i), Math.min(6, i), i, 7 * i, i, 0};
            for (int what = 0; what <= 8; what++) {
                Due.is(due[what], x.count(what), "count " + what + " behind " + i);
            }
        }
    }

    private static void countOfReadingsWithWeight0() {
        Due.says("43: 8 READINGS with WEIGHT 0 by the EDITION");
        NeedleCharts x = new NeedleCharts();
        for (int kind = 0; kind <= 5; kind++) {
            x.reading(kind, kind, 0, 0, 0, 0);
        }
        Due.is(1, x.count(8), "COPIED ones by kind");
        Due.rule(x, "g:1");
        Due.is(0, x.count(8), "1 is not 0");
        Due.rule(x, "g:s-2");
        Due.is(3, x.count(8), "-2, -1 and 0 are 0");
        Due.rule(x, "k:s/5");
        Due.is(4, x.count(8), "a struck one, too");
        x.edition(1);
        x.strike(2);
        Due.is(3, x.count(8), "by the EDITION it is not");
        x.reading(0, 2, 0, 0, 0, 0);
        Due.is(4, x.count(8), "one that came in it");
    }
}

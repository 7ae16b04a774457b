/** Promises 9 to 14 and 16, and what the terms say of RULES: a test for each sentence that names a boundary. */
public final class BoundsOfRulesTest {
    private static final int MIN = Integer.MIN_VALUE;
    private static final int MAX = Integer.MAX_VALUE;

    public static void main(String[] args) {
        editionsAre0To60();
        editionsOnlyGoOn();
        purposesAreThree();
        atomsAreWanted();
        signsBehindAtoms();
        choicesNeedBothWays();
        bracketsAreAtMostEightDeep();
        bracketsMustMatch();
        numbersHaveOneToFourDigits();
        fieldsAreTen();
        faultsAtTheSize();
        faultsOfRowsThatAreFull();
        bytesThatAreNoSigns();
        eachTextForItself();
        faultRefuses();
        ruleRefusesInOrder();
        rulesAreTwentyAtMost();
        refusedRulesChangeNothing();
        strikeRefuses();
        forceHasItsEnds();
        rulesAreInForceFromTheirEditionOn();
        rulesAreInForceTillTheyAreStruck();
        ofSeveralTheOneToldLast();
        countsHasItsEnds();
        countsIsOfWhatWasKnown();
        settingsHaveTheirEnds();
        Due.end("BoundsOfRulesTest");
    }

    private static void editionsAre0To60() {
        Due.says("EDITIONS are 0 .. 60");
        NeedleCharts x = new NeedleCharts();
        for (int e : new int[] {-1, 61, 62, MIN, MAX}) {
            Due.is(-1, x.edition(e), "edition " + e);
            Due.is(0, x.count(6), "a refused call changes nothing");
        }
        Due.is(0, x.edition(0), "0");
        Due.is(0, x.edition(60), "60");
        Due.is(60, x.edition(60), "60 again");
        Due.is(-1, x.edition(61), "61");
        Due.is(60, x.count(6), "the EDITION");
    }

    private static void editionsOnlyGoOn() {
        Due.says("9: the EDITION goes on to a later one, or stays: what it was");
        NeedleCharts x = new NeedleCharts();
        for (int e = 0; e <= 60; e++) {
            Due.is(Math.max(0, e - 1), x.edition(e), "on to " + e);
            Due.is(e, x.edition(e), "stays " + e);
            Due.is(-1, x.edition(e - 1), "back from " + e);
            Due.is(e, x.count(6), "a refused call changes nothing");
        }
        Due.is(-1, x.edition(0), "back to 0");
    }

    /** The FAULT of a text; RULE must agree with it. */
    private static void fault(int want, String text) {
        NeedleCharts x = new NeedleCharts();
        Due.text(x, 0, text);
        Due.is(want, x.fault(0), "fault of " + text);
        Due.is(0, x.count(1), "a FAULT makes no RULE");
        Due.is(want == -4 ? 0 : -100 - want, x.rule(0), "rule of " + text);
        Due.is(want == -4 ? 1 : 0, x.count(1), "RULES behind " + text);
    }

    private static void purposesAreThree() {
        Due.says("PURPOSE : EXPR; PURPOSES: k, g, p");
        for (char c = 1; c < 128; c++) {
            boolean purpose = c == 'k' || c == 'g' || c == 'p';
            fault(purpose ? -4 : 0, c + ":0");
        }
        for (char c = 1; c < 128; c++) {
            fault(c == ':' ? -4 : 1, "p" + c + "0");
        }
        fault(0, ":0");
        fault(1, "k0");
        fault(1, "gk:0");
        fault(2, "k::0");
    }

    private static void atomsAreWanted() {
        Due.says("ATOM: ( EXPR ), a NUMBER, a FIELD");
        for (String ahead : new String[] {"k:", "k:x+", "k:x-", "k:x*", "k:x/", "k:x?", "k:x?y:", "k:(", "k:1+("}) {
            for (char c = 1; c < 128; c++) {
                boolean ends = "ksdxyvhwqn0123456789".indexOf(c) >= 0;
                int at = ahead.length();
                boolean early = ahead.endsWith("(") || ahead.endsWith("?");
                if (ends && !early) {
                    fault(-4, ahead + c);
                } else {
                    fault(ends || c == '(' ? at + 1 : at, ahead + c);
                }
            }
        }
    }

    private static void signsBehindAtoms() {
        Due.says("behind an ATOM: + - * / ? and, where they were begun, : and )");
        for (String ahead : new String[] {"p:x", "p:0", "p:(x)", "p:x+y", "p:x?y:v"}) {
            for (char c = 1; c < 128; c++) {
                int at = ahead.length();
                fault("+-*/?".indexOf(c) >= 0 ? at + 1 : at, ahead + c);
            }
        }
        fault(-4, "p:7");
        fault(-4, "p:77");
        fault(5, "p:x?y");
        fault(6, "p:x?y:");
        fault(-4, "p:(x?y:v)");
        fault(6, "p:(x?y)");
    }

    private static void choicesNeedBothWays() {
        Due.says("SUM, or SUM ? EXPR : EXPR");
        fault(3, "k:1:2");
        fault(4, "k:1?");
        fault(4, "k:1?:2");
        fault(5, "k:1?2");
        fault(6, "k:1?2:");
        fault(-4, "k:1?2:3");
        fault(7, "k:1?2:3:4");
        fault(9, "k:1?2?3:4");
        fault(-4, "k:1?2?3:4:5");
        fault(11, "k:1?2?3:4:5:6");
        fault(-4, "k:1?2:3?4:5");
        fault(-4, "k:1+1?2+2:3+3");
        fault(-4, "k:(1?2:3)?(4?5:6):(7?8:9)");
        fault(6, "k:(1?2)");
        fault(6, "k:1?(2:3)");
        fault(7, "k:(1?2:)");
    }

    private static void bracketsAreAtMostEightDeep() {
        Due.says("( EXPR ), at most 8 deep");
        for (int deep = 1; deep <= 12; deep++) {
            String text = "k:" + "(".repeat(deep) + "x" + ")".repeat(deep);
            fault(deep <= 8 ? -4 : 10, text);
        }
        fault(10, "k:" + "(".repeat(8));
        fault(10, "k:" + "(".repeat(9));
        fault(-4, "k:" + "(x)+".repeat(18) + "(x)");
        String eight = "((((((((x))))))))";
        fault(-4, "k:" + eight + "*" + eight + "-" + eight);
        fault(-4, "k:" + eight + "?" + eight + ":" + eight);
        fault(28, "k:" + eight + "+" + "(".repeat(9) + "x");
        fault(-4, "k:(((((((x?(y):2)))))))");
        fault(12, "k:(((((((x?((y):2)))))))");
        fault(-4, "k:" + "(".repeat(7) + "(x)+(y)-(1)" + ")".repeat(7));
    }

    private static void bracketsMustMatch() {
        Due.says("( EXPR )");
        fault(3, "k:()");
        fault(2, "k:)");
        fault(4, "k:(1");
        fault(3, "k:1)");
        fault(5, "k:(1))");
        fault(5, "k:(1)(1)");
        fault(5, "k:(1)1");
        fault(5, "k:(1)x");
        fault(3, "k:x(1)");
        fault(3, "k:1(1)");
        fault(5, "k:(1+)");
        fault(7, "k:((1)+");
    }

    private static void numbersHaveOneToFourDigits() {
        Due.says("a NUMBER of 1 to 4 digits without 0 ahead of others");
        for (String number : new String[] {"0", "9", "10", "99", "100", "999", "1000", "9999", "1010"}) {
            fault(-4, "p:" + number);
            fault(-4, "p:(" + number + ")+" + number);
        }
        fault(6, "p:10000");
        fault(6, "p:99999");
        fault(6, "p:123456");
        fault(3, "p:00");
        fault(3, "p:01");
        fault(3, "p:0000");
        fault(5, "p:1+00");
        fault(4, "p:(07)");
        fault(8, "p:9*12345");
        fault(-4, "p:0+0-0*0/0");
    }

    private static void fieldsAreTen() {
        Due.says("a FIELD: k s d x y v h w q n");
        for (char c = 'A'; c <= 'z'; c++) {
            fault("ksdxyvhwqn".indexOf(c) >= 0 ? -4 : 2, "p:" + c);
        }
        fault(3, "p:kk");
        fault(3, "p:k1");
        fault(3, "p:1k");
        fault(4, "p:11k");
    }

    private static void faultsAtTheSize() {
        Due.says("FAULT: the size, if it ends too early");
        fault(0, "");
        fault(1, "k");
        fault(2, "k:");
        fault(3, "k:(");
        fault(4, "k:1+");
        fault(4, "k:1-");
        fault(4, "k:1*");
        fault(4, "k:1/");
        fault(4, "k:1?");
        fault(4, "k:(1");
        fault(5, "k:1?1");
        fault(6, "k:1?1:");
        fault(8, "k:((1)+1");
    }

    private static void faultsOfRowsThatAreFull() {
        Due.says("a ROW has 80 elements at most");
        fault(80, "k:" + "x+".repeat(39));
        fault(80, "k:" + "x+".repeat(38) + "(x");
        fault(79, "k:" + "x+".repeat(38) + "x)");
        fault(-4, "k:" + "x+".repeat(38) + "12");
        fault(-4, "k:" + "x+".repeat(37) + "9999");
        fault(79, "k:" + "x+".repeat(37) + "x+01");
    }

    private static void bytesThatAreNoSigns() {
        Due.says("FAULT: the first byte with which no RULE can go on");
        NeedleCharts x = new NeedleCharts();
        int[] none = {0, -1, -128, 127, 1, ' ', 128 + 'k', 128 + '1', 'k' - 256 + 128};
        for (int sign : none) {
            Due.numbers(x, 0, 0, sign, ':', '0');
            Due.is(0, x.fault(0), "PURPOSE " + sign);
            Due.numbers(x, 0, 0, 'k', sign, '0');
            Due.is(1, x.fault(0), "sign " + sign);
            Due.numbers(x, 0, 0, 'k', ':', sign);
            Due.is(2, x.fault(0), "ATOM " + sign);
            Due.numbers(x, 0, 0, 'k', ':', 'x', sign);
            Due.is(3, x.fault(0), "sign " + sign + " behind an ATOM");
        }
        // what is put in keeps its lowest bits, so this is a text
        Due.numbers(x, 0, 0, 'k' + 256, ':' - 256, 'x' + 65536);
        Due.is(-4, x.fault(0), "lowest bits are signs");
    }

    private static void eachTextForItself() {
        Due.says("FAULT: of the text in the SHELF, whatever was read ahead of it");
        String[] ahead = {"k:(", "k:((((((((", "k:1?", "k:1?2:", "k:1+", "k:12", "k:1234", "k:1*(2", "k:x?(y", "k:0", "k", ""};
        String[] texts = {"k:1)", "k:1:2", "k:(1", "k:5", "k:0", "k:((((((((1))))))))", "k:+", "k:1?2:3", "k:", "", "5", ":1"};
        int[] due = {3, 3, 4, -4, -4, -4, 2, -4, 2, 0, 0, 0};
        for (String first : ahead) {
            NeedleCharts x = new NeedleCharts();
            Due.text(x, 0, first);
            for (int i = 0; i < texts.length; i++) {
                Due.text(x, 1, texts[i]);
                x.fault(0);
                Due.is(due[i], x.fault(1), "fault of " + texts[i] + " behind " + first);
            }
        }
    }

    private static void faultRefuses() {
        Due.says("10: -1, -11, -12 (no ROW of bytes)");
        NeedleCharts x = new NeedleCharts();
        x.reading(0, 0, 0, 0, 0, 0);
        x.keep(1, 1, 0);
        x.row(2, 1, 3);
        x.row(3, 2, 3);
        x.row(4, 0, 0);
        int[] shelves = {-1, 8, MIN, MAX, 0, 1, 2, 3, 4};
        int[] answers = {-1, -1, -1, -1, -11, -12, -12, -12, 0};
        for (int i = 0; i < shelves.length; i++) {
            Due.is(answers[i], x.fault(shelves[i]), "fault " + shelves[i]);
        }
        Due.numbers(x, 2, 1, 'k', ':', '0');
        Due.is(-12, x.fault(2), "a text in a ROW of shorts");
    }

    private static void ruleRefusesInOrder() {
        Due.says("11: -1, -2, -11, -12, -100 less a FAULT, in this order");
        NeedleCharts x = new NeedleCharts();
        x.reading(0, 0, 0, 0, 0, 0);
        x.keep(1, 1, 0);
        x.row(2, 1, 3);
        x.row(3, 2, 3);
        x.row(4, 0, 0);
        Due.text(x, 5, "k:0+");
        Due.text(x, 6, "k:0");
        int[] shelves = {-1, 8, MIN, MAX, 0, 1, 2, 3, 4, 5};
        int[] answers = {-1, -1, -1, -1, -11, -12, -12, -12, -100, -104};
        for (int i = 0; i < shelves.length; i++) {
            Due.is(answers[i], x.rule(shelves[i]), "rule " + shelves[i] + " with room");
        }
        for (int i = 0; i < 20; i++) {
            Due.is(i, x.rule(6), "rule " + i);
        }
        for (int i = 0; i < shelves.length; i++) {
            Due.is(i < 4 ? -1 : -2, x.rule(shelves[i]), "rule " + shelves[i] + " without room");
        }
        Due.is(-2, x.rule(6), "a RULE without room");
        Due.is(-4, x.fault(6), "FAULT needs no room");
    }

    private static void rulesAreTwentyAtMost() {
        Due.says("RULES are numbered as they are told, 20 at most");
        NeedleCharts x = new NeedleCharts();
        x.reading(0, 0, 0, 0, 0, 0);
        for (int i = 0; i < 20; i++) {
            Due.is(i, Due.rule(x, "g:" + (i + 11)), "rule " + i);
            Due.is(i + 11, x.counts(0, 0, 0), "it is in force");
        }
        Due.is(1, x.strike(19), "one is STRUCK");
        Due.is(-2, x.rule(7), "which makes no room");
        Due.is(20, x.count(1), "RULES");
        Due.is(18, x.force(1, 0), "the one ahead of it is in force");
        Due.is(-1, x.strike(20), "no RULE 20");
    }

    private static void refusedRulesChangeNothing() {
        Due.says("11: a refused call changes nothing");
        NeedleCharts x = new NeedleCharts();
        x.reading(0, 0, 0, 0, 0, 0);
        Due.rule(x, "g:7");
        Due.text(x, 0, "g:9+");
        Due.is(-104, x.rule(0), "too short");
        Due.text(x, 0, "g:9)");
        Due.is(-103, x.rule(0), "a bracket too many");
        Due.text(x, 0, "g:9");
        Due.is(-4, x.fault(0), "only looked at");
        Due.is(7, x.counts(0, 0, 0), "the RULE in force");
        Due.is(1, x.count(1), "RULES");
        Due.text(x, 0, "g:5");
        Due.is(1, x.rule(0), "told from another SHELF");
        x.put(0, 2, '6');
        Due.is(5, x.counts(0, 0, 0), "a RULE stays as it was told");
        x.keep(0, 0, 0);
        Due.is(5, x.counts(0, 0, 0), "without its ROW, too");
    }

    private static void strikeRefuses() {
        Due.says("12: -1; -3: it was");
        NeedleCharts x = new NeedleCharts();
        for (int rule : new int[] {-1, 0, 1, 19, 20, MIN, MAX}) {
            Due.is(-1, x.strike(rule), "strike " + rule);
        }
        Due.rule(x, "g:9");
        Due.is(-1, x.strike(1), "strike 1");
        Due.is(1, x.strike(0), "strike 0");
        Due.is(-3, x.strike(0), "strike 0 again");
        x.edition(9);
        Due.is(-3, x.strike(0), "strike 0 later");
        x.edition(60);
        Due.rule(x, "g:9");
        Due.is(1, x.strike(1), "strike 1 in the last EDITION");
        Due.is(-3, x.strike(1), "strike 1 again");
    }

    private static void forceHasItsEnds() {
        Due.says("13: a PURPOSE (0 k, 1 g, 2 p) by an EDITION; -4: none; -1 (also one that is above the EDITION)");
        NeedleCharts x = new NeedleCharts();
        x.edition(5);
        for (int purpose : new int[] {-1, 3, MIN, MAX}) {
            for (int e = 0; e <= 5; e++) {
                Due.is(-1, x.force(purpose, e), "force " + purpose + " " + e);
            }
        }
        for (int purpose = 0; purpose <= 2; purpose++) {
            for (int e : new int[] {-1, 6, 60, 61, MIN, MAX}) {
                Due.is(-1, x.force(purpose, e), "force " + purpose + " " + e);
            }
            for (int e = 0; e <= 5; e++) {
                Due.is(-4, x.force(purpose, e), "force " + purpose + " " + e);
            }
        }
        Due.rule(x, "p:1");
        Due.rule(x, "k:0");
        Due.rule(x, "g:1");
        int[] numbers = {1, 2, 0};
        for (int purpose = 0; purpose <= 2; purpose++) {
            Due.is(numbers[purpose], x.force(purpose, 5), "in its EDITION");
            Due.is(-4, x.force(purpose, 4), "ahead of it");
            Due.is(-1, x.force(purpose, 6), "above the EDITION");
        }
    }

    private static void rulesAreInForceFromTheirEditionOn() {
        Due.says("in force from the EDITION on in which it is told");
        NeedleCharts x = new NeedleCharts();
        x.reading(0, 0, 0, 0, 0, 0);
        x.edition(3);
        Due.rule(x, "g:33");
        Due.rule(x, "p:44");
        x.edition(60);
        for (int e = 0; e <= 60; e++) {
            Due.is(e < 3 ? -4 : 0, x.force(1, e), "g by " + e);
            Due.is(e < 3 ? -4 : 1, x.force(2, e), "p by " + e);
            Due.is(e < 3 ? 8 : 33, x.counts(0, 0, e), "WEIGHT by " + e);
            Due.is(e < 3 ? 20 : 44, x.counts(0, 1, e), "SPAN by " + e);
        }
    }

    private static void rulesAreInForceTillTheyAreStruck() {
        Due.says("till it is STRUCK in a later or that EDITION");
        NeedleCharts x = new NeedleCharts();
        x.reading(0, 0, 0, 0, 0, 0);
        x.edition(2);
        Due.rule(x, "g:22");
        Due.rule(x, "g:33");
        Due.is(1, x.force(1, 2), "the last one");
        Due.is(1, x.strike(1), "STRUCK in that EDITION");
        Due.is(0, x.force(1, 2), "it was never in force");
        x.edition(4);
        Due.is(0, x.force(1, 4), "the other one still is");
        Due.is(1, x.strike(0), "STRUCK in a later one");
        x.edition(6);
        int[] inForce = {-4, -4, 0, 0, -4, -4, -4};
        for (int e = 0; e <= 6; e++) {
            Due.is(inForce[e], x.force(1, e), "g by " + e);
            Due.is(inForce[e] == 0 ? 22 : 8, x.counts(0, 0, e), "WEIGHT by " + e);
        }
    }

    private static void ofSeveralTheOneToldLast() {
        Due.says("of several in force the one told last");
        NeedleCharts x = new NeedleCharts();
        x.reading(0, 0, 0, 0, 0, 0);
        Due.rule(x, "g:1");
        Due.rule(x, "g:2");
        x.edition(1);
        Due.rule(x, "g:3");
        Due.rule(x, "p:4");
        Due.is(1, x.force(1, 0), "of two of one EDITION");
        Due.is(2, x.force(1, 1), "of three");
        Due.is(3, x.force(2, 1), "each PURPOSE for itself");
        Due.is(1, x.strike(1), "one that is not the last");
        Due.is(2, x.force(1, 1), "is not missed");
        Due.is(1, x.strike(2), "the last");
        Due.is(0, x.force(1, 1), "the one that is left");
        Due.is(1, x.force(1, 0), "by 0 it is as it was");
    }

    private static void countsHasItsEnds() {
        Due.says("14: WEIGHT (what 0), SPAN (1); -1 (also one that is above the EDITION)");
        NeedleCharts x = new NeedleCharts();
        x.reading(0, 0, 0, 0, 0, 0);
        x.edition(4);
        x.reading(3, 0, 0, 0, 0, 0);
        for (int what : new int[] {-1, 2, MIN, MAX}) {
            Due.is(-1, x.counts(0, what, 0), "what " + what);
            Due.is(-1, x.counts(1, what, 0), "what " + what + " is ahead of not known");
        }
        for (int reading : new int[] {-1, 2, 79, 80, MIN, MAX}) {
            Due.is(-1, x.counts(reading, 0, 0), "READING " + reading);
        }
        for (int e : new int[] {-1, 5, 60, 61, MIN, MAX}) {
            for (int reading = 0; reading <= 1; reading++) {
                Due.is(-1, x.counts(reading, 0, e), "EDITION " + e);
                Due.is(-1, x.counts(reading, 1, e), "EDITION " + e);
            }
        }
        Due.is(8, x.counts(0, 0, 0), "WEIGHT by 0");
        Due.is(20, x.counts(0, 1, 4), "SPAN by 4");
    }

    private static void countsIsOfWhatWasKnown() {
        Due.says("14: -3: it wasn't known by then");
        NeedleCharts x = new NeedleCharts();
        x.edition(3);
        x.reading(0, 0, 0, 0, 0, 0);
        x.edition(5);
        for (int e = 0; e <= 5; e++) {
            Due.is(e < 3 ? -3 : 8, x.counts(0, 0, e), "WEIGHT by " + e);
            Due.is(e < 3 ? -3 : 20, x.counts(0, 1, e), "SPAN by " + e);
        }
    }

    private static void settingsHaveTheirEnds() {
        Due.says("16: MANY (1 .. 9; 2 at first), BOUND (0 .. 999; 30 at first), SMOOTH (0 .. 1000)");
        NeedleCharts x = new NeedleCharts();
        int[] least = {1, 0, 0};
        int[] most = {9, 999, 1000};
        int[] first = {2, 30, 0};
        for (int what = 0; what <= 2; what++) {
            for (int n : new int[] {least[what] - 1, most[what] + 1, MIN, MAX}) {
                Due.is(-1, x.set(what, n), "set " + what + " " + n);
            }
            Due.is(first[what], x.set(what, least[what]), "what it was at first: " + what);
            Due.is(least[what], x.set(what, most[what]), "what it was: " + what);
            Due.is(-1, x.set(what, most[what] + 1), "too much: " + what);
            Due.is(-1, x.set(what, least[what] - 1), "too little: " + what);
            Due.is(most[what], x.set(what, most[what]), "a refused call changes nothing: " + what);
        }
        for (int what : new int[] {-1, 3, MIN, MAX}) {
            Due.is(-1, x.set(what, 5), "set " + what);
        }
    }
}

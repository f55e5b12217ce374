/** Each sentence of the document on PRESSED, by promises 24 to 34, that names an edge. */
public final class PressedEdgesTest {
    private static final Checks CHECKS = new Checks("PressedEdgesTest");
    private static final int MORE = 100000000;
    private static final int MOST = 99999999;

    public static void main(String[] args) {
        nothingToPress();
        noParty();
        keptAreLeftOut();
        upToTheBound();
        pairBoundsTogether();
        capJustEnough();
        capsOfNothing();
        sameNetsWithinBounds();
        lesserNumberFirst();
        earlierCoupleFirst();
        everyCouple();
        waysOfUnlikeLength();
        onlyByCapsItCannotBe();
        kindsInTurn();
        fewerPartiesThanBefore();
        refusalsAheadOfNone();
        spanLowAndHigh();
        spanOfOneWay();
        gainOfOneMore();
        gainOfTheGreatestCap();
        gainNoneAsItIs();
        withoutOneOfNoTrades();
        withoutOneWhoseTradesAreKept();
        withoutOthersCannot();
        withoutBoundsShrink();
        withoutInBetween();
        reliefMoreAndLess();
        relievedTheFirst();
        throughByFlowsAndPressed();
        throughBarsInModeThree();
        allKinds();
        enoughFromNoneOn();
        enoughThoughItCannotBe();
        enoughOthersAsTheyAre();
        enoughOfMuch();
        CHECKS.end();
    }

    private static void due(String call, long got, long want) {
        CHECKS.due(call, got, want);
    }

    private static SwapPress told(int parties, String couples, String more) {
        StringBuilder text = new StringBuilder(Checks.parties(parties) + "kind k;");
        for (String couple : couples.split(" ")) {
            if (!couple.isEmpty()) {
                text.append("trade ").append(couple.charAt(0)).append(' ').append(couple.charAt(1)).append(' ')
                    .append(couple.substring(2)).append(" k;");
            }
        }
        return Checks.told(text + more);
    }

    private static String pressed(SwapPress press) {
        StringBuilder all = new StringBuilder();
        for (int a = 0; a < press.count(0); a++) {
            for (int b = 0; b < press.count(0); b++) {
                int number = a == b ? 0 : press.pressed(a, b, 0);
                if (number != 0) {
                    all.append((char) ('a' + a)).append((char) ('a' + b)).append(number).append(' ');
                }
            }
        }
        return all.toString().trim();
    }

    private static String none(int parties) {
        StringBuilder all = new StringBuilder();
        for (int a = 0; a < parties; a++) {
            for (int b = 0; b < parties; b++) {
                if (a != b) {
                    all.append((char) ('a' + a)).append((char) ('a' + b)).append("-1 ");
                }
            }
        }
        return all.toString().trim();
    }

    private static void is(String what, SwapPress press, int least, String numbers) {
        due(what + ", least", press.least(0), least);
        CHECKS.due(what + ", pressed", pressed(press), numbers);
        due(what + ", couples", press.couples(0), least < 0 ? -1 : numbers.isEmpty() ? 0 : numbers.split(" ").length);
    }

    // ---- what PRESSED is

    private static void nothingToPress() {
        for (int mode = 0; mode <= 3; mode++) {
            SwapPress press = told(2, "", "mode " + mode + ";");
            is("nothing", press, 0, "");
            due("span", press.span(0, 1, 0, 0), 0);
            due("span", press.span(0, 1, 0, 1), 0);
            due("gain", press.gain(0, 1, 0), 0);
            due("without", press.without(0, 0), 0);
            due("relief", press.relief(0, 0), MORE);
            due("relieved", press.relieved(0), 0);
            due("through", press.through(0, 0, 0), 0);
            due("through", press.through(0, 0, 1), 0);
            due("enough", press.enough(0, 1, 0), 0);
            due("all", press.all(), 0);
        }
        is("a ring", told(3, "ab5 bc5 ca5", ""), 0, "");
        is("there and back", told(2, "ab5 ba5", ""), 0, "");
    }

    /** "NONE: it can't be PRESSED, there is no PARTY": of no PARTY it can, and there is none to tell. */
    private static void noParty() {
        SwapPress press = Checks.told("kind k;");
        due("least", press.least(0), 0);
        due("couples", press.couples(0), 0);
        due("relieved", press.relieved(0), -1);
        due("all", press.all(), 0);
        SwapPress one = Checks.told("party a;kind k;");
        due("one party, least", one.least(0), 0);
        due("one party, relieved", one.relieved(0), 0);
        due("one party, relief", one.relief(0, 0), MORE);
        due("one party, without", one.without(0, 0), 0);
    }

    /** By FLOW and FREE NET: KEPT ones count for neither. */
    private static void keptAreLeftOut() {
        is("one kept", told(2, "ab5 ba3 ab2", "keep 1;"), 7, "ab7");
        is("all kept", told(2, "ab5 ba3", "keep 0;keep 1;"), 0, "");
        is("a bound by free ones", told(3, "ab5 bc5 ac9", "keep 2;"), 10, "ab5 bc5");
        SwapPress press = told(2, "ab5 ba3", "");
        is("none kept", press, 2, "ab2");
        press.keep(1);
        is("kept by hand", press, 5, "ab5");
        press.keep(1);
        is("kept no more", press, 2, "ab2");
    }

    /** "0 to BOUND", by mode 0 "FLOW of (a, b)". */
    private static void upToTheBound() {
        is("no short way without flow", told(3, "ab5 bc5", ""), 10, "ab5 bc5");
        is("as much as the short way takes", told(3, "ab5 bc5 ac4 ca4", ""), 6, "ab1 ac4 bc1");
        is("one flow more", told(3, "ab5 bc5 ac5 ca5", ""), 5, "ac5");
    }

    /** "1, 3: FLOWS of (a, b) and (b, a) together". */
    private static void pairBoundsTogether() {
        for (int mode : new int[] {1, 3}) {
            is("turned round", told(3, "ab5 bc5 ca2", "mode " + mode + ";"), 4, "ab1 ac2 bc1");
        }
        is("not turned round by mode 0", told(3, "ab5 bc5 ca2", "mode 0;"), 6, "ab3 bc3");
    }

    /** "2: CAP": just enough, and one less. */
    private static void capJustEnough() {
        is("just enough", told(2, "ab5", "mode 2;cap a b 5;"), 5, "ab5");
        is("one less", told(2, "ab5", "mode 2;cap a b 4;"), -1, none(2));
        is("one less, by another", told(3, "ab5", "mode 2;cap a b 4;"), 6, "ab4 ac1 cb1");
        is("by another that has just enough", told(3, "ab5", "mode 2;cap a b 4;cap a c 1;cap c b 1;"), 6, "ab4 ac1 cb1");
        is("by another that has one less", told(3, "ab5", "mode 2;cap a b 4;cap a c 1;cap c b 0;"), -1, none(3));
        is("without caps", told(3, "ab5 bc5", "mode 2;"), 5, "ac5");
    }

    /** Caps of 0 bar nothing where nothing must go. */
    private static void capsOfNothing() {
        is("there and back", told(2, "ab5 ba5", "mode 2;cap a b 0;cap b a 0;"), 0, "");
        is("one more", told(2, "ab5 ba6", "mode 2;cap a b 0;cap b a 0;"), -1, none(2));
        is("one more, one let through", told(2, "ab5 ba6", "mode 2;cap a b 0;cap b a 1;"), 1, "ba1");
    }

    /** "so that for each PARTY what goes out less what comes in is FREE NET". */
    private static void sameNetsWithinBounds() {
        for (int mode = 0; mode <= 3; mode++) {
            SwapPress press = told(6, "ab9 bc8 cd7 de6 ef5 fa4 ad3 be2 cf1 da9 eb8 fc7", "keep 3;cap d a 3;mode " + mode + ";");
            int all = 0;
            for (int a = 0; a < 6; a++) {
                int net = 0;
                for (int b = 0; b < 6; b++) {
                    if (a != b) {
                        int number = press.pressed(a, b, 0);
                        due("within bounds", number >= 0 && number <= press.bound(a, b, 0) ? 1 : 0, 1);
                        due("within its span", number >= press.span(a, b, 0, 0) && number <= press.span(a, b, 0, 1) ? 1 : 0, 1);
                        net += number - press.pressed(b, a, 0);
                        all += number;
                    }
                }
                due("net of " + a, net, press.net(a, 0, true) - MORE);
                due("through of " + a, press.through(a, 0, 1) <= press.through(a, 0, 0) || mode == 2 ? 1 : 0, 1);
            }
            due("all together", all, press.least(0));
        }
    }

    /** "of several the first by numbers of the couples .. the lesser number first". */
    private static void lesserNumberFirst() {
        is("by c, not by b", told(4, "ad2", "mode 2;cap a d 0;"), 4, "ac2 cd2");
        is("by both", told(4, "ad2", "mode 2;cap a d 0;cap a c 1;"), 4, "ab1 ac1 bd1 cd1");
        is("by both, the other end", told(4, "ad2", "mode 2;cap a d 0;cap c d 1;"), 4, "ab1 ac1 bd1 cd1");
        is("by b alone", told(4, "ad2", "mode 2;cap a d 0;cap a c 0;"), 4, "ab2 bd2");
    }

    /** "(0, 1), (0, 2) .., (1, 0), (1, 2) ..". */
    private static void earlierCoupleFirst() {
        is("a to d, b to c", told(4, "ac1 bd1", "mode 2;"), 2, "ad1 bc1");
        is("c to b, d to a", told(4, "ca1 db1", "mode 2;"), 2, "cb1 da1");
        is("more of them", told(4, "ac3 ad1 bc1 bd3", "mode 2;"), 8, "ad4 bc4");
        is("two to one", told(3, "ac2 bc3", "mode 2;"), 5, "ac2 bc3");
    }

    /** As many couples as can be: four give to four others, each by a cap of 1. */
    private static void everyCouple() {
        StringBuilder caps = new StringBuilder("mode 2;");
        for (char a = 'a'; a <= 'd'; a++) {
            for (char b = 'e'; b <= 'h'; b++) {
                caps.append("cap ").append(a).append(' ').append(b).append(" 1;");
            }
        }
        SwapPress press = told(8, "ae4 bf4 cg4 dh4", caps.toString());
        due("least", press.least(0), 16);
        due("couples", press.couples(0), 16);
        for (int a = 0; a < 4; a++) {
            for (int b = 4; b < 8; b++) {
                due("pressed", press.pressed(a, b, 0), 1);
                due("back", press.pressed(b, a, 0), 0);
            }
        }
        due("press", press.press(0), 16);
    }

    /** "all together (LEAST) are the fewest that can be": some go one step, others more. */
    private static void waysOfUnlikeLength() {
        is("by a, too", told(3, "ab2 ca1", ""), 3, "ab2 ca1");
        is("one to four steps", told(5, "ab3 ea4 cd3 de2", ""), 12, "ab3 cd3 de2 ea4");
        is("a short and a long way", told(4, "ad1 ab3 bc3 cd3", ""), 10, "ab3 ad1 bc3 cd3");
        is("the short way first", told(4, "ad3 da1 ab3 bc3 cd3", ""), 9, "ab2 ad3 bc2 cd2");
    }

    /** "KINDS that are kept apart": whatever was asked of another ahead. */
    private static void kindsInTurn() {
        SwapPress press = Checks.told(Checks.parties(3) + "kind k;kind l;"
            + "trade a b 5 k;trade b c 3 k;trade c a 1 k;trade c b 9 l;trade b c 9 l;trade b a 2 l;");
        for (int i = 0; i < 2; i++) {
            due("through of k", press.through(1, 0, 1), 2);
            due("total of l", press.total(1, 0), 20);
            due("relief of k", press.relief(0, 0), MORE + 2);
            due("total of l", press.total(1, 0), 20);
            due("relieved of k", press.relieved(0), 0);
            due("through of l", press.through(1, 1, 1), 0);
            due("total of k", press.total(0, 0), 9);
            due("relief of l", press.relief(2, 1), MORE + 18);
            due("total of k", press.total(0, 0), 9);
            due("relieved of l", press.relieved(1), 1);
            due("pressed of k", press.pressed(0, 1, 0), 4);
            due("pressed of l", press.pressed(1, 0, 1), 2);
        }
    }

    /** Nothing is left of those that were told ahead. */
    private static void fewerPartiesThanBefore() {
        SwapPress press = told(8, "ah5 ba4 gh3 ga2 hb1", "mode 2;");
        due("least", press.least(0), 8);
        due("couples", press.couples(0), 3);
        Checks.tell(press, "party a;party b;kind k;trade a b 7 k;");
        due("least", press.least(0), 7);
        due("couples", press.couples(0), 1);
        due("relief", press.relief(0, 0), MORE);
        due("relief", press.relief(1, 0), MORE);
        due("through", press.through(0, 0, 1), 0);
        due("press", press.press(0), 1);
    }

    /** "(It may not be, by mode 2.)": the flows themselves are within all other bounds. */
    private static void onlyByCapsItCannotBe() {
        SwapPress press = told(3, "ab5 bc2", "cap a b 0;cap a c 0;");
        int[] least = {7, 7, -1, 7};
        for (int mode = 0; mode <= 3; mode++) {
            press.mode(mode);
            due("mode " + mode, press.least(0), least[mode]);
        }
    }

    /** "all these ahead of NONE". */
    private static void refusalsAheadOfNone() {
        SwapPress press = told(2, "ab5", "mode 2;cap a b 4;");
        due("least", press.least(0), -1);
        due("least of no kind", press.least(1), -2);
        due("pressed of itself", press.pressed(0, 0, 0), -2);
        due("pressed of no kind", press.pressed(0, 1, 1), -2);
        due("couples", press.couples(0), -1);
        due("couples of no kind", press.couples(-1), -2);
        due("span", press.span(0, 1, 0, 0), -1);
        due("span", press.span(0, 1, 0, 1), -1);
        due("span of neither", press.span(0, 1, 0, 2), -3);
        due("span of neither", press.span(0, 1, 0, -1), -3);
        due("span of itself, neither", press.span(1, 1, 0, 2), -2);
        due("span of no kind, neither", press.span(0, 1, 1, 2), -2);
        due("gain", press.gain(1, 0, 0), -1);
        due("gain of itself", press.gain(1, 1, 0), -2);
        due("relief", press.relief(0, 0), -1);
        due("relief of none", press.relief(2, 0), -2);
        due("relief of no kind", press.relief(0, 1), -2);
        due("through by pressed", press.through(0, 0, 1), -1);
        due("through by flows", press.through(0, 0, 0), 0);
        due("through by neither", press.through(0, 0, 2), -2);
        due("through by neither", press.through(0, 0, -1), -2);
        due("relieved", press.relieved(0), -1);
        due("relieved of no kind", press.relieved(1), -2);
        due("enough", press.enough(1, 0, 0), -1);
        due("enough of itself", press.enough(1, 1, 0), -2);
        due("without of none", press.without(2, 0), -2);
        due("all", press.all(), -1);
    }

    // ---- span, gain

    /** "the least (high 0), the greatest (1) number by any of those whose total is LEAST". */
    private static void spanLowAndHigh() {
        SwapPress press = told(4, "ad2", "mode 2;cap a d 0;cap a c 1;");
        int[][] want = {{0, 1, 1, 2}, {0, 2, 0, 1}, {1, 3, 1, 2}, {2, 3, 0, 1}, {0, 3, 0, 0}, {1, 2, 0, 0}, {3, 0, 0, 0}};
        for (int[] w : want) {
            due("low of " + w[0] + w[1], press.span(w[0], w[1], 0, 0), w[2]);
            due("high of " + w[0] + w[1], press.span(w[0], w[1], 0, 1), w[3]);
        }
        CHECKS.due("pressed behind it", pressed(press), "ab1 ac1 bd1 cd1");
        press.cap(0, 1, 1);
        due("both shut, low", press.span(0, 1, 0, 0), 1);
        due("both shut, high", press.span(0, 1, 0, 1), 1);
    }

    private static void spanOfOneWay() {
        SwapPress press = told(2, "ab5 ba2", "");
        due("low", press.span(0, 1, 0, 0), 3);
        due("high", press.span(0, 1, 0, 1), 3);
        due("back, low", press.span(1, 0, 0, 0), 0);
        due("back, high", press.span(1, 0, 0, 1), 0);
        for (int high : new int[] {-1, 2, Integer.MIN_VALUE, Integer.MAX_VALUE}) {
            due("span by " + high, press.span(0, 1, 0, high), -3);
        }
    }

    /** "By how much LEAST would be less, if BOUND of (a, b) were 1 more." */
    private static void gainOfOneMore() {
        SwapPress press = told(8, "ab1 bc1 cd1 de1 ef1 fg1 gh1", "");
        for (int b = 1; b < 8; b++) {
            due("gain from a to " + b, press.gain(0, b, 0), b - 1);
            due("gain back", press.gain(b, 0, 0), 0);
        }
        due("nothing is gained by asking", press.least(0), 7);
        SwapPress both = told(3, "ab5 bc5", "mode 1;");
        due("of (a, b) alone, not of (b, a)", both.gain(2, 0, 0), 0);
        due("of (a, b) alone", both.gain(0, 2, 0), 1);
        SwapPress capped = told(3, "ab5 bc5", "mode 2;cap a c 3;");
        due("by a cap", capped.gain(0, 2, 0), 1);
        capped.cap(0, 2, 4);
        due("the last that gains", capped.gain(0, 2, 0), 1);
        capped.cap(0, 2, 5);
        due("the first that doesn't", capped.gain(0, 2, 0), 0);
        SwapPress between = told(5, "ab3 ea4 cd3 de2", "");
        due("past d alone", between.gain(2, 4, 0), 1);
        due("past d and e", between.gain(2, 0, 0), 2);
        due("past d, e and a", between.gain(2, 1, 0), 3);
        due("enough past d", between.enough(2, 4, 0), 2);
        due("past e alone", between.gain(3, 0, 0), 1);
        due("past e and a", between.gain(3, 1, 0), 2);
        due("enough past e", between.enough(3, 0, 0), 2);
    }

    private static void gainOfTheGreatestCap() {
        SwapPress press = told(2, "ab5", "mode 2;");
        due("bound", press.bound(0, 1, 0), MOST);
        due("gain", press.gain(0, 1, 0), 0);
        due("bound as it was", press.bound(0, 1, 0), MOST);
    }

    /** "NONE: it can't be PRESSED as it is": even if it could by one more. */
    private static void gainNoneAsItIs() {
        SwapPress press = told(2, "ab5", "mode 2;cap a b 4;");
        due("one is wanting", press.gain(0, 1, 0), -1);
        press.cap(0, 1, 5);
        due("none is wanting", press.gain(0, 1, 0), 0);
    }

    // ---- without

    /** "LEAST, if all TRADES of a PARTY in a KIND were KEPT, and AMOUNTS of those that aren't KEPT now, together." */
    private static void withoutOneOfNoTrades() {
        SwapPress press = Checks.told(Checks.parties(3) + "kind k;kind l;trade a b 5 k;trade b a 3 k;trade c a 4 l;");
        due("as LEAST", press.without(2, 0), 2);
        due("in the other kind", press.without(2, 1), 4);
        due("one of the two", press.without(0, 0), 8);
        due("the other of the two", press.without(1, 0), 8);
        due("b in the other kind", press.without(1, 1), 4);
    }

    private static void withoutOneWhoseTradesAreKept() {
        SwapPress press = told(3, "ab5 ba3 bc9 cb1", "keep 2;");
        due("least", press.least(0), 3);
        due("c: one kept, one not", press.without(2, 0), 2 + 1);
        press.keep(3);
        due("c: both kept", press.without(2, 0), 2);
        due("b: all that aren't kept", press.without(1, 0), 8);
        due("kept ones stay", press.count(3), 2);
    }

    /** "NONE: the others can't be PRESSED then". */
    private static void withoutOthersCannot() {
        SwapPress press = told(4, "ab5 cd3", "mode 2;cap a b 4;cap a c 0;cap a d 0;");
        due("it can't be", press.least(0), -1);
        due("without a", press.without(0, 0), 8);
        due("without b", press.without(1, 0), 8);
        due("without c the others can't", press.without(2, 0), -1);
        due("without d the others can't", press.without(3, 0), -1);
    }

    /** The bounds are by the flows that are left then. */
    private static void withoutBoundsShrink() {
        SwapPress press = told(3, "ab5 bc5 ca5", "");
        due("least", press.least(0), 0);
        for (int party = 0; party < 3; party++) {
            due("without " + party, press.without(party, 0), 15);
        }
        SwapPress pairs = told(4, "ab5 ba2 cd4 dc1", "mode 3;");
        due("least", pairs.least(0), 6);
        due("without a", pairs.without(0, 0), 7 + 3);
        due("without d", pairs.without(3, 0), 5 + 3);
    }

    /** Its trades are KEPT then, and no more is said: by caps it may stand between others. */
    private static void withoutInBetween() {
        SwapPress press = told(3, "ab5 ac2", "mode 2;cap a b 3;");
        due("least", press.least(0), 9);
        due("without c", press.without(2, 0), 3 + 2 * 2 + 2);
    }

    // ---- relief, through

    /** "By how much .. is less by PRESSED than by FLOW (told 100,000,000 more)": it can be more, too. */
    private static void reliefMoreAndLess() {
        SwapPress press = told(3, "ab5", "mode 2;cap a b 3;");
        due("a", press.relief(0, 0), MORE);
        due("b", press.relief(1, 0), MORE);
        due("c has 2 in and 2 out more", press.relief(2, 0), MORE - 4);
        SwapPress less = told(3, "ab5 bc5", "mode 2;");
        due("a", less.relief(0, 0), MORE);
        due("b has 5 in and 5 out less", less.relief(1, 0), MORE + 10);
        SwapPress much = told(3, "ab999999 ".repeat(39).trim(), "mode 2;cap a b 0;");
        due("the greatest burden", much.relief(2, 0), MORE - 2 * 39 * 999999);
    }

    /** "The PARTY whose relief() is the greatest, of like ones the first." */
    private static void relievedTheFirst() {
        due("all alike", told(3, "ab5 bc5 ca5", "").relieved(0), 0);
        due("nobody", told(3, "ab5", "").relieved(0), 0);
        due("b and c alike", told(3, "bc5 cb5", "").relieved(0), 1);
        due("the last", told(4, "ad3 da3 bd4 db4", "").relieved(0), 3);
        due("the second", told(3, "ab5 ba5 bc1 cb1", "").relieved(0), 1);
        due("a burdened one isn't", told(3, "bc5", "mode 2;cap b c 0;").relieved(0), 1);
    }

    /** "THROUGH of a PARTY: the lesser of what goes out of it and what comes to it." */
    private static void throughByFlowsAndPressed() {
        SwapPress press = told(4, "ab5 bc7 cb1 bd2 da1", "keep 2;");
        int[] flows = {1, 5, 0, 1};
        int[] then = {0, 4, 0, 0};
        for (int party = 0; party < 4; party++) {
            due("by flows, " + party, press.through(party, 0, 0), flows[party]);
        }
        due("least", press.least(0), 4 + 7 + 1);
        for (int party = 0; party < 4; party++) {
            due("by pressed, " + party, press.through(party, 0, 1), then[party]);
        }
    }

    /** "(mode 3: and THROUGH is no more than by FLOWS)". */
    private static void throughBarsInModeThree() {
        SwapPress press = told(6, "ba1 ab1 bf1 cd4 de4 ef4 cb1 bc1", "mode 1;");
        due("mode 1, least", press.least(0), 13);
        due("mode 1, through b", press.through(1, 0, 0), 2);
        due("mode 1, enough", press.enough(1, 5, 0), 3);
        press.mode(3);
        due("mode 3, least", press.least(0), 13);
        due("mode 3, enough", press.enough(1, 5, 0), 3);
        SwapPress tight = told(6, "ab5 bc5 cd10 de10 ef10", "mode 1;");
        due("mode 1, enough", tight.enough(1, 5, 0), 10);
        tight.mode(3);
        due("mode 3, enough", tight.enough(1, 5, 0), 5);
        tight.mode(0);
        due("mode 0, enough", tight.enough(1, 5, 0), 5);
    }

    // ---- all, enough

    /** "TOTAL of all KINDS together, each PRESSED. NONE: one can't be (of no KINDS 0)." */
    private static void allKinds() {
        due("a new object", new SwapPress().all(), 0);
        due("parties alone", Checks.told("party a;party b;").all(), 0);
        String four = "party a;party b;kind w;kind x;kind y;kind z;";
        SwapPress press = Checks.told(four + "trade a b 1 w;trade a b 2 x;trade a b 4 y;trade b a 16 z;trade a b 8 z;");
        due("four kinds", press.all(), 1 + 2 + 4 + 8);
        press.keep(4);
        due("kept ones don't count", press.all(), 1 + 2 + 4 + 16);
        press.mode(2);
        due("by caps", press.all(), 1 + 2 + 4 + 16);
        press.cap(0, 1, 4);
        due("just enough", press.all(), 1 + 2 + 4 + 16);
        press.cap(0, 1, 3);
        due("one can't be", press.all(), -1);
        press.undo();
        press.cap(1, 0, 15);
        due("the last can't be", press.all(), -1);
        press.cap(1, 0, 16);
        press.trade(0, 1, 9, 0);
        due("the first can't be", press.all(), -1);
    }

    /** "The least BOUND (0 to 99999999) of (a, b)". */
    private static void enoughFromNoneOn() {
        SwapPress press = told(3, "ab5 bc5", "");
        due("none is needed", press.enough(1, 0, 0), 0);
        due("less than there is, for all goes by (a, c)", press.enough(0, 2, 0), 5);
        due("as it is", press.enough(0, 1, 0), 5);
        SwapPress both = told(4, "ab2 bd2 ac2 cd2 da1", "");
        due("what the others can't take", both.enough(0, 1, 0), 1);
        due("least is as it was", both.least(0), 6);
    }

    /** "NONE: it can't be by that, too". */
    private static void enoughThoughItCannotBe() {
        SwapPress press = told(3, "ab5", "mode 2;cap a b 3;cap a c 1;");
        due("it can't be", press.least(0), -1);
        due("by (a, b)", press.enough(0, 1, 0), 5);
        due("by (a, c)", press.enough(0, 2, 0), 2);
        due("by (c, b), too, it can't", press.enough(2, 1, 0), -1);
        due("by (b, c), too, it can't", press.enough(1, 2, 0), -1);
        press.cap(0, 2, 2);
        due("then it can", press.least(0), 7);
    }

    /** "all others as they are". */
    private static void enoughOthersAsTheyAre() {
        SwapPress press = told(3, "ab5", "mode 2;cap a b 0;cap c b 4;cap a c 3;");
        due("(a, c) can't alone", press.enough(0, 2, 0), -1);
        due("(a, b) can", press.enough(0, 1, 0), 5);
        press.cap(0, 1, 2);
        due("then (a, c) must take 3", press.enough(0, 2, 0), 3);
        due("and (c, b) 3", press.enough(2, 1, 0), 3);
        due("(a, b) would take all", press.enough(0, 1, 0), 5);
    }

    private static void enoughOfMuch() {
        SwapPress press = told(3, "ab999999 ".repeat(39).trim(), "mode 2;cap a b 0;");
        due("all of it", press.enough(0, 1, 0), 39 * 999999);
        due("all of it by c", press.enough(0, 2, 0), 39 * 999999);
        due("gain", press.gain(0, 1, 0), 1);
        due("least", press.least(0), 2 * 39 * 999999);
        due("span", press.span(0, 2, 0, 1), 39 * 999999);
    }
}

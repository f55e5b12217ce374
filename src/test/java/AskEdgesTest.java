/** Each sentence of the document on trades, nets, rings, groups and pages that names an edge. */
public final class AskEdgesTest {
    private static final Checks CHECKS = new Checks("AskEdgesTest");
    private static final int MORE = 100000000;
    private static final int MIN = Integer.MIN_VALUE;
    private static final int MAX = Integer.MAX_VALUE;

    public static void main(String[] args) {
        tradeOfFirstAndLast();
        flowWithoutKept();
        netsWithAndWithoutKept();
        greatestNets();
        sides();
        totals();
        boundsByMode();
        ringOfTwoIsTheLeast();
        ringTouchesItself();
        ringIndex();
        ringFromItsLeast();
        shortestThenFirst();
        loadIsTheLeast();
        clearedOfNothing();
        clearedToTheEnd();
        roundsFromNoneTo99();
        asMuchAsThereIs();
        chainOfNothing();
        chainOfAll();
        chainGetsShorter();
        chainFirstByNumbers();
        chainIndex();
        fewestOfNothing();
        fewestOfAll();
        evenBits();
        lineBytes();
        longestLine();
        counts();
        CHECKS.end();
    }

    private static void due(String call, long got, long want) {
        CHECKS.due(call, got, want);
    }

    private static String ring(SwapPress press) {
        StringBuilder ring = new StringBuilder();
        int size = press.ring(0, -1);
        for (int i = 0; i < size; i++) {
            ring.append((char) ('a' + press.ring(0, i)));
        }
        due("ring(0, " + Math.max(size, 0) + ")", press.ring(0, Math.max(size, 0)), -1);
        return ring.toString();
    }

    private static String chain(SwapPress press) {
        StringBuilder chain = new StringBuilder();
        int size = press.chain(0, -1);
        for (int i = 0; i < size; i++) {
            chain.append((char) ('a' + press.chain(0, i)));
        }
        due("chain(0, " + size + ")", press.chain(0, size), -1);
        return chain.toString();
    }

    /** "ab5 bc7" as lines of trades of kind k. */
    private static String trades(String couples) {
        StringBuilder text = new StringBuilder();
        for (String couple : couples.split(" ")) {
            text.append("trade ").append(couple.charAt(0)).append(' ').append(couple.charAt(1)).append(' ')
                .append(couple.substring(2)).append(" k;");
        }
        return text.toString();
    }

    private static SwapPress told(int parties, String couples) {
        return Checks.told(Checks.parties(parties) + "kind k;" + trades(couples));
    }

    // ---- promises 13 to 18

    /** "what 0 from whom, 1 to whom, 2 AMOUNT, 3 KIND, 4 1 if it is KEPT, else 0. -2." */
    private static void tradeOfFirstAndLast() {
        SwapPress press = Checks.told(Checks.parties(8) + "kind w;kind x;kind y;kind z;"
            + "trade a h 1 w;trade h a 999999 z;keep 1;");
        int[][] want = {{0, 7, 1, 0, 0}, {7, 0, 999999, 3, 1}};
        for (int trade = 0; trade < 2; trade++) {
            for (int what = 0; what < 5; what++) {
                due("tradeOf(" + trade + ", " + what + ")", press.tradeOf(trade, what), want[trade][what]);
            }
            for (int what : new int[] {-1, 5, MIN, MAX}) {
                due("tradeOf(" + trade + ", " + what + ")", press.tradeOf(trade, what), -2);
            }
        }
        for (int trade : new int[] {-1, 2, 40, MIN, MAX}) {
            due("tradeOf(" + trade + ", 0)", press.tradeOf(trade, 0), -2);
            due("tradeOf(" + trade + ", 5)", press.tradeOf(trade, 5), -2);
        }
    }

    /** "FLOW of (a, b): AMOUNTS of TRADES from a to b that aren't KEPT, together." */
    private static void flowWithoutKept() {
        SwapPress press = Checks.told("party a;party b;kind k;kind l;"
            + "trade a b 5 k;trade b a 7 k;trade a b 11 l;trade a b 13 k;trade a b 17 k;keep 3;");
        due("flow(0, 1, 0)", press.flow(0, 1, 0), 22);
        due("flow(1, 0, 0)", press.flow(1, 0, 0), 7);
        due("flow(0, 1, 1)", press.flow(0, 1, 1), 11);
        due("flow(1, 0, 1)", press.flow(1, 0, 1), 0);
        due("flow(0, 0, 0)", press.flow(0, 0, 0), -2);
        press.keep(1);
        due("kept alone", press.flow(1, 0, 0), 0);
        press.keep(3);
        due("kept no more", press.flow(0, 1, 0), 35);
    }

    /** "NET .. all AMOUNTS from it less all to it (KEPT ones, too); FREE NET: the same without KEPT ones." */
    private static void netsWithAndWithoutKept() {
        SwapPress press = Checks.told(Checks.parties(3) + "kind k;kind l;"
            + "trade a b 5 k;trade b a 7 k;trade a c 11 k;trade c a 13 l;keep 1;keep 2;");
        due("net(0, 0, false)", press.net(0, 0, false), MORE + 9);
        due("net(0, 0, true)", press.net(0, 0, true), MORE + 5);
        due("net(1, 0, false)", press.net(1, 0, false), MORE + 2);
        due("net(1, 0, true)", press.net(1, 0, true), MORE - 5);
        due("net(2, 0, false)", press.net(2, 0, false), MORE - 11);
        due("net(2, 0, true)", press.net(2, 0, true), MORE);
        due("net(0, 1, false)", press.net(0, 1, false), MORE - 13);
        due("net(0, 1, true)", press.net(0, 1, true), MORE - 13);
        due("net(1, 1, true)", press.net(1, 1, true), MORE);
    }

    /** "NETS are told 100,000,000 more": the greatest that a text can tell, either way. */
    private static void greatestNets() {
        SwapPress press = Checks.told("party a;party b;kind k;" + "trade a b 999999 k;".repeat(40));
        int much = 40 * 999999;
        for (boolean free : new boolean[] {true, false}) {
            due("net(0, 0, " + free + ")", press.net(0, 0, free), MORE + much);
            due("net(1, 0, " + free + ")", press.net(1, 0, free), MORE - much);
        }
        due("flow", press.flow(0, 1, 0), much);
        due("side from", press.side(0, 0, 0), much);
        due("side to", press.side(1, 0, 1), much);
        due("total", press.total(0, 0), much);
        due("nets above 0", press.total(0, 3), much);
        due("bound", press.bound(0, 1, 0), much);
        due("least", press.least(0), much);
        due("pressed", press.pressed(0, 1, 0), much);
        due("span", press.span(0, 1, 0, 1), much);
        due("without", press.without(0, 0), much);
        due("enough", press.enough(0, 1, 0), much);
        due("all", press.all(), much);
        press.keep(0);
        due("kept", press.total(0, 2), 999999);
        due("net", press.net(0, 0, false), MORE + much);
        due("free net", press.net(0, 0, true), MORE + much - 999999);
    }

    /** "what 0 all AMOUNTS from it, 1 to it (KEPT ones, too), 2 with how many others it has TRADES." */
    private static void sides() {
        SwapPress press = Checks.told(Checks.parties(8) + "kind k;kind l;"
            + trades("ab1 ca2 ab4 ba8 ad16 ea32 af64 ga128 ah256 bc512") + "trade a b 1000 l;keep 6;keep 0;");
        due("from a", press.side(0, 0, 0), 1 + 4 + 16 + 64 + 256);
        due("to a", press.side(0, 0, 1), 2 + 8 + 32 + 128);
        due("with all others", press.side(0, 0, 2), 7);
        due("with two", press.side(1, 0, 2), 2);
        due("with a kept one alone", press.side(5, 0, 2), 1);
        due("from f", press.side(5, 0, 0), 0);
        due("to f, kept", press.side(5, 0, 1), 64);
        due("the other kind", press.side(0, 1, 0), 1000);
        due("the other kind", press.side(0, 1, 2), 1);
        due("none", press.side(7, 1, 0) + press.side(7, 1, 1) + press.side(7, 1, 2), 0);
        due("one trade, from", told(2, "ab9").side(0, 0, 2), 1);
        due("one trade, to", told(2, "ab9").side(1, 0, 2), 1);
        due("there and back is one other", told(2, "ab9 ba8 ab7").side(0, 0, 2), 1);
        for (int what : new int[] {-1, 3, MIN, MAX}) {
            due("side(0, 0, " + what + ")", press.side(0, 0, what), -2);
        }
    }

    /** "What 0 TOTAL of a KIND, 1 how many couples have FLOW above 0, 2 AMOUNTS of KEPT ones, 3 FREE NETS above 0". */
    private static void totals() {
        SwapPress press = Checks.told(Checks.parties(3) + "kind k;kind l;"
            + trades("ab5 ab6 ba7 bc8 ca9 cb10") + "keep 3;keep 5;trade b a 4 l;");
        due("total", press.total(0, 0), 27);
        due("couples", press.total(0, 1), 3);
        due("kept", press.total(0, 2), 18);
        due("free nets a -5, b -4, c 9", press.total(0, 3), 9);
        due("the other", press.total(1, 0), 4);
        due("the other, kept", press.total(1, 2), 0);
        SwapPress none = Checks.told("party a;kind k;");
        for (int what = 0; what <= 3; what++) {
            due("total(0, " + what + ") of nothing", none.total(0, what), 0);
        }
        due("total(0, 4)", none.total(0, 4), -2);
        due("total(0, -1)", none.total(0, -1), -2);
    }

    /** "mode 0: FLOW of (a, b); 1, 3: FLOWS of (a, b) and (b, a) together; 2: CAP." */
    private static void boundsByMode() {
        SwapPress press = Checks.told(Checks.parties(3) + "kind k;kind l;" + trades("ab5 ba7 ab9 bc3")
            + "keep 2;cap a b 0;cap b c 99999998;");
        int[][] want = {{5, 7, 3, 0, 0}, {12, 12, 3, 3, 0}, {0, 99999999, 99999998, 99999999, 99999999},
            {12, 12, 3, 3, 0}};
        for (int mode : new int[] {3, 2, 1, 0}) {
            press.mode(mode);
            due("mode " + mode + " (a, b)", press.bound(0, 1, 0), want[mode][0]);
            due("mode " + mode + " (b, a)", press.bound(1, 0, 0), want[mode][1]);
            due("mode " + mode + " (b, c)", press.bound(1, 2, 0), want[mode][2]);
            due("mode " + mode + " (c, b)", press.bound(2, 1, 0), want[mode][3]);
            due("mode " + mode + " (a, c)", press.bound(0, 2, 0), want[mode][4]);
            due("mode " + mode + ", kind 1", press.bound(0, 1, 1), 0);
            due("mode " + mode + ", kind 1", press.bound(1, 0, 1), mode == 2 ? 99999999 : 0);
        }
    }

    // ---- promises 19 to 23

    /** "A RING: two PARTIES or more". */
    private static void ringOfTwoIsTheLeast() {
        CHECKS.due("two", ring(told(2, "ab5 ba4")), "ab");
        CHECKS.due("one way alone", ring(told(2, "ab5 ab4")), "");
        CHECKS.due("three", ring(told(3, "ab5 bc4 ca3")), "abc");
        CHECKS.due("a chain", ring(told(3, "ab5 bc4 ac3")), "");
        CHECKS.due("eight", ring(told(8, "ah1 hg1 gf1 fe1 ed1 dc1 cb1 ba1")), "ahgfedcb");
        CHECKS.due("seven of eight steps", ring(told(8, "ah1 hg1 gf1 fe1 ed1 dc1 cb1")), "");
        SwapPress none = Checks.told("party a;kind k;");
        due("one party", none.ring(0, -1), -1);
        due("one party", none.load(0), -1);
    }

    /** "unlike": what touches itself is two rings, of which one is the shortest. */
    private static void ringTouchesItself() {
        CHECKS.due("an eight", ring(told(5, "ab1 bc1 ca1 ad1 de1 ea1")), "abc");
        CHECKS.due("an eight, taken", ring(told(5, "ab1 ba1 bc1 cd1 db1")), "ab");
    }

    /** "The i-th PARTY (from 0 on); i NONE: how many it has. NONE: there is none, or not so many". */
    private static void ringIndex() {
        SwapPress press = told(4, "bd5 db4 ab1");
        due("ring(0, -1)", press.ring(0, -1), 2);
        due("ring(0, 0)", press.ring(0, 0), 1);
        due("ring(0, 1)", press.ring(0, 1), 3);
        for (int i : new int[] {2, 3, 8, MAX}) {
            due("ring(0, " + i + ")", press.ring(0, i), -1);
        }
        for (int i : new int[] {-2, -3, MIN}) {
            due("ring(0, " + i + ")", press.ring(0, i), -3);
            due("ring(1, " + i + ")", press.ring(1, i), -2);
            due("chain(0, " + i + ")", press.chain(0, i), -3);
            due("chain(1, " + i + ")", press.chain(1, i), -2);
        }
        SwapPress none = told(2, "ab1");
        for (int i : new int[] {-1, 0, 1, MAX}) {
            due("ring(0, " + i + ") of none", none.ring(0, i), -1);
        }
        due("ring(0, -2) of none", none.ring(0, -2), -3);
    }

    /** "told from its least PARTY on". */
    private static void ringFromItsLeast() {
        CHECKS.due("from b on", ring(told(4, "dc1 cb1 bd1")), "bdc");
        CHECKS.due("the other way", ring(told(4, "bc1 cd1 db1")), "bcd");
    }

    /** "the SHORTEST: of the fewest PARTIES, of like ones the first by numbers." */
    private static void shortestThenFirst() {
        CHECKS.due("two ahead of three", ring(told(5, "ab9 bc9 ca9 de1 ed1")), "de");
        CHECKS.due("the first two", ring(told(4, "cd9 dc9 ab1 ba1")), "ab");
        CHECKS.due("the second number counts", ring(told(4, "ad9 da9 ac1 ca1")), "ac");
        CHECKS.due("the third number counts", ring(told(4, "ab9 bd9 da9 bc1 ca1")), "abc");
        CHECKS.due("the second ahead of the third", ring(told(4, "ab1 bd1 da1 ac1 cb1 ba1 ca1")), "ab");
        CHECKS.due("abd ahead of acb", ring(told(4, "ab1 bd1 da1 ac1 cd1")), "abd");
        CHECKS.due("a later step is shorter", ring(told(4, "ab1 bc1 cd1 da1 ac1")), "acd");
        CHECKS.due("a later step is longer", ring(told(3, "ab1 ba1 ac1 cb1")), "ab");
        CHECKS.due("one that goes to the ring alone", ring(told(4, "ac1 cd1 da1 bd1")), "acd");
        CHECKS.due("one that the ring goes to alone", ring(told(4, "ab1 ac1 cd1 da1")), "acd");
        CHECKS.due("a party without a ring first", ring(told(4, "ab1 ac1 ad1 bc1 cd1 db1")), "bcd");
    }

    /** "LOAD: the least FLOW along it", of several TRADES together. */
    private static void loadIsTheLeast() {
        due("the first", told(3, "ab1 bc2 ca3").load(0), 1);
        due("the second", told(3, "ab2 bc1 ca3").load(0), 1);
        due("the last", told(3, "ab3 bc2 ca1").load(0), 1);
        due("together", told(3, "ab3 bc9 ca1 ca1 ca2 ca3").load(0), 3);
        due("like ones", told(2, "ab4 ba4").load(0), 4);
        due("the greatest", Checks.told("party a;party b;kind k;" + trades("ab999999 ba999999").repeat(20)).load(0),
            20 * 999999);
    }

    /** "CLEARED: the SHORTEST RING taken out, again and again, till there is none". */
    private static void clearedOfNothing() {
        SwapPress none = Checks.told("party a;party b;kind k;");
        SwapPress chain = told(3, "ab5 bc5");
        for (int what = 0; what <= 2; what++) {
            due("cleared of nothing", none.cleared(0, what), 0);
            due("cleared of no ring", chain.cleared(0, what), what == 2 ? 2 : 0);
        }
        for (int what : new int[] {-1, 3, MIN, MAX}) {
            due("cleared(0, " + what + ")", chain.cleared(0, what), -2);
        }
    }

    /** "LOADS times PARTIES of it, all together." */
    private static void clearedToTheEnd() {
        SwapPress press = told(4, "ab9 ba4 bc6 ca7 cd3 da2");
        due("4 twice, 5 thrice", press.cleared(0, 0), 8 + 15);
        due("rings", press.cleared(0, 1), 2);
        due("couples", press.cleared(0, 2), 4);
        SwapPress whole = told(4, "ab1 ba1 bc2 cb2 cd3 dc3 da4 ad4");
        due("all of it", whole.cleared(0, 0), 20);
        due("rings", whole.cleared(0, 1), 4);
        due("no couple", whole.cleared(0, 2), 0);
        due("asked alone", whole.total(0, 0), 20);
    }

    /** "TOTAL when n RINGS (0 to 99) were TAKEN OUT". */
    private static void roundsFromNoneTo99() {
        StringBuilder couples = new StringBuilder();
        int rings = 0;
        for (char a = 'a'; a <= 'h' && rings < 20; a++) {
            for (char b = (char) (a + 1); b <= 'h' && rings < 20; b++) {
                couples.append("" + a + b + "1 " + b + a + "1 ");
                rings++;
            }
        }
        SwapPress press = told(8, couples.toString().trim());
        due("rings", press.cleared(0, 1), 20);
        for (int n = 0; n <= 20; n++) {
            due("rounds(0, " + n + ")", press.rounds(0, n), 40 - 2 * n);
        }
        due("rounds(0, 99)", press.rounds(0, 99), 0);
        for (int n : new int[] {-1, 100, MIN, MAX}) {
            due("rounds(0, " + n + ")", press.rounds(0, n), -3);
            due("rounds(1, " + n + ")", press.rounds(1, n), -2);
        }
    }

    /** "the SHORTEST each (as many as there are)". */
    private static void asMuchAsThereIs() {
        SwapPress press = told(4, "ab9 ba4 bc6 ca7 cd3 da2");
        int[] want = {31, 23, 8, 8, 8};
        for (int n = 0; n < want.length; n++) {
            due("rounds(0, " + n + ")", press.rounds(0, n), want[n]);
        }
        due("rounds(0, 99)", press.rounds(0, 99), 8);
        due("rounds of no ring", told(3, "ab5 bc5").rounds(0, 99), 10);
        due("rounds of nothing", Checks.told("kind k;").rounds(0, 99), 0);
    }

    /** "how many (i NONE; 0, if there is no FLOW then)". */
    private static void chainOfNothing() {
        CHECKS.due("no trades", chain(Checks.told("party a;party b;kind k;")), "");
        CHECKS.due("no party", chain(Checks.told("kind k;")), "");
        CHECKS.due("cleared to nothing", chain(told(3, "ab1 bc1 ca1")), "");
        CHECKS.due("a kept one", chain(Checks.told("party a;party b;kind k;trade a b 5 k;keep 0;")), "");
    }

    private static void chainOfAll() {
        CHECKS.due("two", chain(told(2, "ba5")), "ba");
        CHECKS.due("what a ring leaves", chain(told(2, "ba5 ab6")), "ab");
        CHECKS.due("eight", chain(told(8, "hg1 gf1 fe1 ed1 dc1 cb1 ba1")), "hgfedcba");
        CHECKS.due("eight of a ring", chain(told(8, "ah2 hg2 gf2 fe2 ed1 dc2 cb2 ba2")), "dcbahgfe");
    }

    /** Each time anew, by the trades as they are. */
    private static void chainGetsShorter() {
        SwapPress press = told(4, "ab1 bc1 cd1");
        CHECKS.due("four", chain(press), "abcd");
        press.drop(0);
        CHECKS.due("three", chain(press), "bcd");
        press.keep(1);
        CHECKS.due("two", chain(press), "bc");
        press.trade(2, 1, 1, 0);
        CHECKS.due("none", chain(press), "");
        press.undo();
        press.undo();
        press.undo();
        CHECKS.due("four again", chain(press), "abcd");
    }

    /** "the i-th (from 0 on) of the first such row by numbers". */
    private static void chainFirstByNumbers() {
        CHECKS.due("the first start", chain(told(4, "bc1 ad1")), "ad");
        CHECKS.due("the first second", chain(told(4, "ad1 ac1 bc1")), "ac");
        CHECKS.due("the first third", chain(told(4, "ab1 bd1 bc1")), "abc");
        CHECKS.due("longest ahead of first", chain(told(4, "ab1 dc1 ca1")), "dcab");
        CHECKS.due("longest through a later one", chain(told(4, "ab1 ac1 cb1 bd1")), "acbd");
    }

    /** "NONE: not so many; -2; -3: i is below NONE." */
    private static void chainIndex() {
        SwapPress press = told(3, "bc5");
        due("chain(0, -1)", press.chain(0, -1), 2);
        due("chain(0, 0)", press.chain(0, 0), 1);
        due("chain(0, 1)", press.chain(0, 1), 2);
        for (int i : new int[] {2, 3, 8, MAX}) {
            due("chain(0, " + i + ")", press.chain(0, i), -1);
        }
        SwapPress none = Checks.told("kind k;");
        due("chain(0, 0) of nothing", none.chain(0, 0), -1);
        due("chain(0, -2) of nothing", none.chain(0, -2), -3);
    }

    // ---- promises 35 to 38

    /** "PARTIES with FREE NET that is not 0, less the greatest number of GROUPS". */
    private static void fewestOfNothing() {
        for (String text : new String[] {"kind k;", "party a;kind k;", "party a;party b;kind k;" + trades("ab5 ba5"),
            "party a;party b;kind k;trade a b 5 k;keep 0;", Checks.parties(3) + "kind k;" + trades("ab5 bc5 ca5")}) {
            SwapPress press = Checks.told(text);
            due("fewest of " + text, press.fewest(0, 0), 0);
            due("groups of " + text, press.fewest(0, 1), 0);
            for (int what : new int[] {-1, 2, MIN, MAX}) {
                due("fewest(0, " + what + ")", press.fewest(0, what), -2);
            }
        }
    }

    private static void fewestOfAll() {
        groups("one pair", told(2, "ab5"), 1, 1);
        groups("one group of three", told(3, "ab5 ac6"), 2, 1);
        groups("one between isn't counted", told(3, "ab5 bc5"), 1, 1);
        groups("a group of all eight", told(8, "ah1 bh2 ch4 dh8 eh16 fh32 gh64"), 7, 1);
        groups("four pairs", told(8, "ae1 bf2 cg4 dh8"), 4, 4);
        groups("four like pairs", told(8, "ae1 bf1 cg1 dh1"), 4, 4);
        groups("two of four", told(8, "ab1 ac2 ad3 eh5 fh6 gh7"), 6, 2);
        groups("three and five", told(8, "ac3 bc4 dh10 eh20 fh40 gh80"), 6, 2);
        groups("3 -1 -2 with others 3 -3", told(5, "ab1 ac2 de3"), 3, 2);
    }

    private static void groups(String what, SwapPress press, int fewest, int groups) {
        due("fewest, " + what, press.fewest(0, 0), fewest);
        due("groups, " + what, press.fewest(0, 1), groups);
    }

    /** "two PARTIES or more as bits"; "-2: the KIND, bits of no PARTY; -3: there are fewer than two bits." */
    private static void evenBits() {
        SwapPress press = told(3, "ab5");
        due("a and b", press.even(3, 0), 1);
        due("a and c", press.even(5, 0), 0);
        due("b and c", press.even(6, 0), 0);
        due("all three", press.even(7, 0), 1);
        for (int bits : new int[] {0, 1, 2, 4}) {
            due("even(" + bits + ")", press.even(bits, 0), -3);
            due("even(" + bits + ") of no kind", press.even(bits, 1), -2);
        }
        for (int bits : new int[] {8, 9, 11, 15, 256, MIN, MIN + 3, -1, MAX}) {
            due("even(" + bits + ")", press.even(bits, 0), -2);
        }
        due("even of no kind", press.even(3, 1), -2);
        due("even of no kind", press.even(3, -1), -2);
        SwapPress eight = told(8, "ah5 ba5");
        due("b and h of eight", eight.even(0x82, 0), 1);
        due("all eight", eight.even(0xff, 0), 1);
        due("a ninth", eight.even(0x1ff, 0), -2);
        due("a ninth alone", eight.even(0x100, 0), -2);
        due("those with nothing", eight.even(0x0c, 0), 1);
        eight.keep(0);
        due("kept ones don't count", eight.even(3, 0), 1);
        due("kept ones don't count", eight.even(0x82, 0), 0);
        SwapPress none = Checks.told("kind k;");
        due("no party, no bit", none.even(0, 0), -3);
        due("no party, one bit", none.even(1, 0), -2);
    }

    /** "the NAME from whom, >, the NAME to whom, a blank, AMOUNT, a blank, the NAME of the KIND, and, if it is KEPT". */
    private static void lineBytes() {
        SwapPress press = Checks.told("party a;party zz;kind k;trade zz a 10 k;trade a zz 900 k;keep 1;");
        String[] want = {"zz>a 10 k", "a>zz 900 k *"};
        for (int trade = 0; trade < 2; trade++) {
            int size = want[trade].length();
            for (int i = 0; i < size; i++) {
                due("line(" + trade + ", " + i + ")", press.line(trade, i), want[trade].charAt(i));
            }
            for (int i : new int[] {size, size + 1, 64, 65, MAX}) {
                due("line(" + trade + ", " + i + ")", press.line(trade, i), -1);
            }
            for (int i : new int[] {-1, -2, MIN}) {
                due("line(" + trade + ", " + i + ")", press.line(trade, i), -3);
                due("line(2, " + i + ")", press.line(2, i), -2);
                due("line(-1, " + i + ")", press.line(-1, i), -2);
            }
        }
        due("line(2, 0)", press.line(2, 0), -2);
        press.keep(1);
        CHECKS.due("kept no more", Checks.line(press, 1), "a>zz 900 k");
    }

    private static void longestLine() {
        SwapPress press = Checks.told("party abcdefgh;party ijklmnop;kind qrstuvwx;");
        for (int i = 0; i < 40; i++) {
            press.trade(0, 1, 999999, 0);
        }
        press.keep(39);
        CHECKS.due("the 40th", Checks.line(press, 39), "abcdefgh>ijklmnop 999999 qrstuvwx *");
        press.keep(39);
        press.press(0);
        press.keep(0);
        CHECKS.due("a pressed one", Checks.line(press, 0), "abcdefgh>ijklmnop 39999960 qrstuvwx *");
        due("its end", press.line(0, 37), -1);
        due("its last", press.line(0, 36), '*');
    }

    /** "0 PARTIES, 1 KINDS, 2 TRADES, 3 KEPT ones, 4 the mode, 5 ACTS .., 6 bytes on THE TAPE. NONE for others." */
    private static void counts() {
        SwapPress press = Checks.told(Checks.parties(8) + "kind w;kind x;kind y;kind z;mode 3;");
        for (int i = 0; i < 40; i++) {
            press.trade(0, 1, 1, 3);
        }
        for (int i = 0; i < 40; i++) {
            due("kept", press.count(3), i);
            press.keep(i);
        }
        Checks.feedAll(press, new byte[900]);
        int[] full = {8, 4, 40, 40, 3, 10, 900};
        for (int what = 0; what < full.length; what++) {
            due("count(" + what + ") of a full one", press.count(what), full[what]);
        }
        for (int what : new int[] {-1, 7, 8, MIN, MAX}) {
            due("count(" + what + ")", press.count(what), -1);
        }
    }
}

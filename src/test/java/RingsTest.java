/** Promises 19 to 23: ring, load, cleared, rounds, chain. */
public final class RingsTest {
    private static final Checks CHECKS = new Checks("RingsTest");

    public static void main(String[] args) {
        noRing();
        shortestComesFirst();
        firstByNumbers();
        keptAndKinds();
        wholeCircle();
        chains();
        CHECKS.end();
    }

    private static void due(String call, long got, long want) {
        CHECKS.due(call, got, want);
    }

    private static String ring(SwapPress press, int kind) {
        StringBuilder ring = new StringBuilder();
        for (int i = 0; i < press.ring(kind, -1); i++) {
            ring.append(press.ring(kind, i));
        }
        return ring.toString();
    }

    private static String chain(SwapPress press, int kind) {
        StringBuilder chain = new StringBuilder();
        for (int i = 0; i < press.chain(kind, -1); i++) {
            chain.append(press.chain(kind, i));
        }
        return chain.toString();
    }

    private static void noRing() {
        SwapPress press = Checks.told(Checks.parties(3) + "kind k;trade a b 5 k;trade b c 5 k;trade a c 5 k;");
        due("ring(0, -1)", press.ring(0, -1), -1);
        due("ring(0, 0)", press.ring(0, 0), -1);
        due("ring(0, -2)", press.ring(0, -2), -3);
        due("ring(1, -2)", press.ring(1, -2), -2);
        due("ring(-1, 0)", press.ring(-1, 0), -2);
        due("load(0)", press.load(0), -1);
        due("load(1)", press.load(1), -2);
        due("cleared(0, 0)", press.cleared(0, 0), 0);
        due("cleared(0, 1)", press.cleared(0, 1), 0);
        due("cleared(0, 2)", press.cleared(0, 2), 3);
        due("cleared(0, 3)", press.cleared(0, 3), -2);
        due("cleared(0, -1)", press.cleared(0, -1), -2);
        due("cleared(1, 0)", press.cleared(1, 0), -2);
        due("rounds(0, 99)", press.rounds(0, 99), 15);
        due("rounds(0, 100)", press.rounds(0, 100), -3);
        due("rounds(0, -1)", press.rounds(0, -1), -3);
        due("rounds(1, 100)", press.rounds(1, 100), -2);
    }

    private static void shortestComesFirst() {
        SwapPress press = Checks.told(Checks.parties(5) + "kind k;"
            + "trade a b 9 k;trade b c 8 k;trade c a 7 k;trade d e 5 k;trade e d 3 k;");
        CHECKS.due("ring", ring(press, 0), "34");
        due("ring(0, 2)", press.ring(0, 2), -1);
        due("ring(0, max)", press.ring(0, Integer.MAX_VALUE), -1);
        due("load", press.load(0), 3);
        due("cleared", press.cleared(0, 0), 2 * 3 + 3 * 7);
        due("rings", press.cleared(0, 1), 2);
        due("couples left", press.cleared(0, 2), 3);
        due("rounds 0", press.rounds(0, 0), 32);
        due("rounds 1", press.rounds(0, 1), 26);
        due("rounds 2", press.rounds(0, 2), 5);
        due("rounds 3", press.rounds(0, 3), 5);
        due("nothing is taken by asking", press.total(0, 0), 32);
    }

    private static void firstByNumbers() {
        SwapPress press = Checks.told(Checks.parties(5) + "kind k;"
            + "trade a c 1 k;trade c d 2 k;trade d a 3 k;trade c b 4 k;trade b a 5 k;trade a d 6 k;trade d b 7 k;");
        CHECKS.due("two of them", ring(press, 0), "03");
        press.drop(2);
        CHECKS.due("of 021, 031", ring(press, 0), "021");
        press.trade(0, 1, 1, 0);
        press.trade(1, 2, 1, 0);
        CHECKS.due("of 01, 12", ring(press, 0), "01");
        press.takeRing(0);
        CHECKS.due("12 alone", ring(press, 0), "12");
        SwapPress later = Checks.told(Checks.parties(4) + "kind k;"
            + "trade d c 5 k;trade c b 5 k;trade b d 5 k;trade b a 9 k;");
        CHECKS.due("told from its least", ring(later, 0), "132");
    }

    private static void keptAndKinds() {
        SwapPress press = Checks.told(Checks.parties(2) + "kind k;kind l;"
            + "trade a b 5 k;trade b a 5 l;trade b a 4 k;trade a b 2 k;keep 2;");
        due("kept", press.ring(0, -1), -1);
        due("other kind", press.ring(1, -1), -1);
        press.keep(2);
        due("unkept", press.ring(0, -1), 2);
        due("load of flows", press.load(0), 4);
        due("total when cleared", press.rounds(0, 1), 3);
    }

    private static void wholeCircle() {
        StringBuilder text = new StringBuilder(Checks.parties(8) + "kind k;");
        for (int i = 0; i < 8; i++) {
            text.append("trade ").append((char) ('a' + i)).append(' ')
                .append((char) ('a' + (i + 3) % 8)).append(' ').append(i + 10).append(" k;");
        }
        SwapPress press = Checks.told(text.toString());
        CHECKS.due("all of them", ring(press, 0), "03614725");
        due("load", press.load(0), 10);
        due("cleared", press.cleared(0, 0), 80);
        due("couples left", press.cleared(0, 2), 7);
        CHECKS.due("chain", chain(press, 0), "36147250");
        due("chain(0, 8)", press.chain(0, 8), -1);
    }

    private static void chains() {
        SwapPress press = Checks.told(Checks.parties(6) + "kind k;kind l;"
            + "trade f e 1 k;trade e d 1 k;trade a c 1 k;trade c b 1 k;trade a b 1 k;trade a e 1 k;"
            + "trade a b 4 l;trade b a 4 l;");
        CHECKS.due("first by numbers", chain(press, 0), "021");
        due("not so many", press.chain(0, 3), -1);
        due("below NONE", press.chain(0, -2), -3);
        due("no kind", press.chain(2, -2), -2);
        due("cleared to nothing", press.chain(1, -1), 0);
        due("cleared to nothing", press.chain(1, 0), -1);
        press.trade(1, 5, 1, 0);
        CHECKS.due("longer", chain(press, 0), "021543");
        SwapPress none = Checks.told("kind k;");
        due("without parties", none.chain(0, -1), 0);
        due("without parties", none.ring(0, -1), -1);
    }
}

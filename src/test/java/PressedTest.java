/** Promises 24 to 34: least, pressed, couples, span, gain, without, relief, through, relieved, all, enough. */
public final class PressedTest {
    private static final Checks CHECKS = new Checks("PressedTest");

    public static void main(String[] args) {
        refused();
        modeZero();
        modeOne();
        modeThree();
        caps();
        gains();
        withouts();
        reliefs();
        alls();
        kept();
        empty();
        CHECKS.end();
    }

    private static void due(String call, long got, long want) {
        CHECKS.due(call, got, want);
    }

    private static String numbers(SwapPress press, int kind) {
        StringBuilder all = new StringBuilder();
        for (int a = 0; a < press.count(0); a++) {
            for (int b = 0; b < press.count(0); b++) {
                if (a != b && press.pressed(a, b, kind) > 0) {
                    all.append(a).append(b).append(':').append(press.pressed(a, b, kind)).append(' ');
                }
            }
        }
        return all.toString().trim();
    }

    private static void refused() {
        SwapPress press = Checks.told("party a;party b;kind k;trade a b 5 k;");
        due("least", press.least(1), -2);
        due("least", press.least(-1), -2);
        due("couples", press.couples(1), -2);
        due("relieved", press.relieved(1), -2);
        due("press", press.press(1), -2);
        int[][] wrong = {{0, 0, 0}, {2, 0, 0}, {0, 2, 0}, {-1, 0, 0}, {0, -1, 0}, {0, 1, 1}, {0, 1, -1}};
        for (int[] w : wrong) {
            due("pressed", press.pressed(w[0], w[1], w[2]), -2);
            due("span", press.span(w[0], w[1], w[2], 0), -2);
            due("span, no high", press.span(w[0], w[1], w[2], 5), -2);
            due("gain", press.gain(w[0], w[1], w[2]), -2);
            due("enough", press.enough(w[0], w[1], w[2]), -2);
        }
        due("span, no high", press.span(0, 1, 0, -1), -3);
        due("span, no high", press.span(0, 1, 0, 2), -3);
        int[][] none = {{2, 0}, {-1, 0}, {0, 1}, {0, -1}};
        for (int[] n : none) {
            due("without", press.without(n[0], n[1]), -2);
            due("relief", press.relief(n[0], n[1]), -2);
            due("through", press.through(n[0], n[1], 0), -2);
        }
        due("through, no what", press.through(0, 0, 2), -2);
        due("through, no what", press.through(0, 0, -1), -2);
    }

    /** Two ways from a to d of like length, b or c between: the first by numbers takes the later one. */
    private static void modeZero() {
        SwapPress press = Checks.told(Checks.parties(4) + "kind k;"
            + "trade a b 6 k;trade a c 6 k;trade b d 6 k;trade c d 6 k;trade d a 4 k;");
        due("least", press.least(0), 16);
        CHECKS.due("pressed", numbers(press, 0), "01:2 02:6 13:2 23:6");
        due("couples", press.couples(0), 4);
        due("low", press.span(0, 1, 0, 0), 2);
        due("high", press.span(0, 1, 0, 1), 6);
        due("low", press.span(2, 3, 0, 0), 2);
        due("high", press.span(2, 3, 0, 1), 6);
        due("low", press.span(3, 0, 0, 0), 0);
        due("high", press.span(3, 0, 0, 1), 0);
        due("low of none", press.span(1, 2, 0, 0), 0);
        due("high of none", press.span(1, 2, 0, 1), 0);
        CHECKS.due("pressed stays", numbers(press, 0), "01:2 02:6 13:2 23:6");
        due("enough", press.enough(0, 3, 0), 8);
        due("enough as it is", press.enough(0, 1, 0), 2);
        due("gain", press.gain(0, 3, 0), 1);
        due("gain", press.gain(0, 1, 0), 0);
    }

    /**
     * A least way never uses both directions of a pair, so mode 3 bars nothing that mode 1 would take
     * by its own bounds; it does once a bound is raised: b had 5 through, and 10 would like to.
     */
    private static void modeThree() {
        SwapPress press = Checks.told(Checks.parties(6) + "kind k;mode 1;"
            + "trade a b 5 k;trade b c 5 k;trade c d 10 k;trade d e 10 k;trade e f 10 k;");
        due("mode 1, least", press.least(0), 40);
        due("mode 1, enough", press.enough(1, 5, 0), 10);
        due("mode 1, gain", press.gain(1, 5, 0), 3);
        press.mode(3);
        due("mode 3, least", press.least(0), 40);
        due("mode 3, through", press.through(1, 0, 0), 5);
        due("mode 3, through pressed", press.through(1, 0, 1), 5);
        due("mode 3, enough", press.enough(1, 5, 0), 5);
        due("mode 3, gain", press.gain(1, 5, 0), 3);
        due("mode 3, without", press.without(0, 0), 40);
        CHECKS.due("mode 3, pressed", numbers(press, 0), "01:5 12:5 23:10 34:10 45:10");
    }

    /** Pairs bound both ways: a ring of three turned round costs less than going on along it. */
    private static void modeOne() {
        SwapPress press = Checks.told(Checks.parties(3) + "kind k;mode 1;"
            + "trade a b 9 k;trade b c 6 k;trade c a 2 k;");
        due("mode 1, least", press.least(0), 9);
        CHECKS.due("mode 1, pressed", numbers(press, 0), "01:5 02:2 12:2");
        press.mode(0);
        due("mode 0, least", press.least(0), 11);
    }

    private static void caps() {
        SwapPress press = Checks.told(Checks.parties(3) + "kind k;mode 2;trade a b 10 k;cap a b 4;");
        due("round about", press.least(0), 16);
        CHECKS.due("round about", numbers(press, 0), "01:4 02:6 21:6");
        due("enough", press.enough(0, 1, 0), 10);
        due("gain", press.gain(0, 1, 0), 1);
        due("gain", press.gain(0, 2, 0), 0);
        press.cap(0, 2, 5);
        due("it can't be", press.least(0), -1);
        due("pressed", press.pressed(0, 1, 0), -1);
        due("couples", press.couples(0), -1);
        due("span", press.span(0, 1, 0, 1), -1);
        due("gain", press.gain(0, 2, 0), -1);
        due("relief", press.relief(1, 0), -1);
        due("relieved", press.relieved(0), -1);
        due("through by flows", press.through(0, 0, 0), 0);
        due("through by pressed", press.through(0, 0, 1), -1);
        due("all", press.all(), -1);
        due("press", press.press(0), -5);
        due("enough", press.enough(0, 2, 0), 6);
        due("enough, other", press.enough(0, 1, 0), 10);
        due("enough, none", press.enough(2, 1, 0), -1);
        due("without a", press.without(0, 0), 10);
        due("span, no high", press.span(0, 1, 0, 2), -3);
    }

    /** One more from a to e saves the whole way round. */
    private static void gains() {
        SwapPress press = Checks.told(Checks.parties(5) + "kind k;"
            + "trade a b 5 k;trade b c 5 k;trade c d 5 k;trade d e 5 k;");
        due("least", press.least(0), 20);
        due("a to e", press.gain(0, 4, 0), 3);
        due("a to d", press.gain(0, 3, 0), 2);
        due("a to c", press.gain(0, 2, 0), 1);
        due("a to b", press.gain(0, 1, 0), 0);
        due("e to a", press.gain(4, 0, 0), 0);
        due("enough a to e", press.enough(0, 4, 0), 5);
        due("enough e to a", press.enough(4, 0, 0), 0);
    }

    private static void withouts() {
        SwapPress press = Checks.told(Checks.parties(3) + "kind k;"
            + "trade a b 10 k;trade b c 8 k;trade c a 6 k;trade b a 3 k;trade c b 2 k;trade a c 50 k;keep 5;");
        due("least", press.least(0), 1);
        due("without a", press.without(0, 0), 19 + 6);
        due("without b", press.without(1, 0), 23 + 6);
        due("without c", press.without(2, 0), 16 + 7);
        press.mode(2);
        press.cap(1, 2, 0);
        press.cap(1, 0, 0);
        due("without a it can't be", press.without(0, 0), -1);
        due("without b", press.without(1, 0), 29);
        due("nothing is kept by asking", press.count(3), 1);
    }

    private static void reliefs() {
        SwapPress press = Checks.told(Checks.parties(4) + "kind k;"
            + "trade a b 10 k;trade b a 4 k;trade b c 6 k;trade c b 1 k;");
        due("relief a", press.relief(0, 0), 100000008);
        due("relief b", press.relief(1, 0), 100000010);
        due("relief c", press.relief(2, 0), 100000002);
        due("relief d", press.relief(3, 0), 100000000);
        due("relieved", press.relieved(0), 1);
        due("through flows", press.through(1, 0, 0), 10);
        due("through pressed", press.through(1, 0, 1), 5);
        due("through pressed", press.through(0, 0, 1), 0);
        SwapPress burdened = Checks.told(Checks.parties(3) + "kind k;mode 2;trade b c 5 k;cap b c 2;");
        due("relief a", burdened.relief(0, 0), 99999994);
        due("relief b", burdened.relief(1, 0), 100000000);
        due("relieved", burdened.relieved(0), 1);
        due("through", burdened.through(0, 0, 1), 3);
    }

    private static void alls() {
        SwapPress press = Checks.told(Checks.parties(3) + "kind k;kind l;kind m;"
            + "trade a b 5 k;trade b a 7 l;trade a b 3 l;");
        due("all", press.all(), 9);
        due("all, other kind asked", press.least(1), 4);
        due("all", press.all(), 9);
        press.mode(2);
        press.cap(1, 0, 1);
        due("all by caps", press.all(), 5 + 7);
        press.cap(1, 2, 1);
        due("one can't be", press.all(), -1);
        due("the other can", press.least(0), 5);
    }

    private static void kept() {
        SwapPress press = Checks.told(Checks.parties(3) + "kind k;"
            + "trade a b 5 k;trade b c 5 k;trade c a 5 k;");
        due("a ring goes", press.least(0), 0);
        due("couples", press.couples(0), 0);
        due("relieved, all alike", press.relieved(0), 0);
        press.keep(2);
        due("kept ones don't count", press.least(0), 10);
        press.undo();
        due("undone", press.least(0), 0);
        press.drop(0);
        due("dropped", press.least(0), 10);
        press.undo();
        press.takeRing(0);
        due("taken out", press.least(0), 0);
        due("trades", press.count(2), 0);
    }

    private static void empty() {
        SwapPress press = Checks.told("kind k;");
        due("least", press.least(0), 0);
        due("couples", press.couples(0), 0);
        due("relieved", press.relieved(0), -1);
        due("all", press.all(), 0);
    }
}

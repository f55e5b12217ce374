/** Promises 5 to 12: trade, drop, keep, mode, cap, takeRing, press, undo. */
public final class HandTest {
    private static final String THREE = "party a;party b;party c;kind k;kind l;";
    private static final Checks CHECKS = new Checks("HandTest");

    public static void main(String[] args) {
        trading();
        dropping();
        keeping();
        modes();
        caps();
        takingRings();
        pressing();
        pressingTooMany();
        undoing();
        refusedAreNoActs();
        CHECKS.end();
    }

    private static void due(String call, long got, long want) {
        CHECKS.due(call, got, want);
    }

    private static void lines(String call, SwapPress press, String want) {
        CHECKS.due(call, Checks.lines(press), want);
    }

    private static void trading() {
        SwapPress press = Checks.told(THREE);
        due("trade", press.trade(0, 1, 1, 0), 0);
        due("trade", press.trade(2, 1, 999999, 1), 1);
        lines("trades", press, "a>b 1 k;c>b 999999 l;");
        due("from none", press.trade(-1, 1, 1, 0), -2);
        due("from none", press.trade(3, 1, 1, 0), -2);
        due("to none", press.trade(0, 3, 1, 0), -2);
        due("to itself", press.trade(1, 1, 1, 0), -2);
        due("no kind", press.trade(0, 1, 1, 2), -2);
        due("no kind, no amount", press.trade(0, 1, 0, -1), -2);
        due("amount 0", press.trade(0, 1, 0, 0), -3);
        due("amount below 0", press.trade(0, 1, Integer.MIN_VALUE, 0), -3);
        due("amount beyond", press.trade(0, 1, 1000000, 0), -3);
        for (int i = 2; i < 40; i++) {
            due("trade", press.trade(i % 3, (i + 1) % 3, i, i % 2), i);
        }
        due("the 41st", press.trade(0, 1, 1, 0), -4);
        due("the 41st, amount 0", press.trade(0, 1, 0, 0), -3);
        due("the 41st, to itself", press.trade(0, 0, 1, 0), -2);
        due("trades", press.count(2), 40);
        due("acts", press.count(5), 10);
    }

    private static void dropping() {
        SwapPress press = Checks.told(THREE + "trade a b 1 k;trade b c 2 l;trade c a 3 k;keep 2;");
        due("drop none", press.drop(3), -2);
        due("drop none", press.drop(-1), -2);
        due("drop", press.drop(1), 2);
        lines("trades", press, "a>b 1 k;c>a 3 k *;");
        due("drop", press.drop(0), 1);
        due("drop", press.drop(0), 0);
        due("drop none", press.drop(0), -2);
        due("undo", press.undo(), 2);
        due("undo", press.undo(), 1);
        due("undo", press.undo(), 0);
        lines("trades", press, "a>b 1 k;b>c 2 l;c>a 3 k *;");
    }

    private static void keeping() {
        SwapPress press = Checks.told(THREE + "trade a b 1 k;trade b c 2 l;");
        due("keep none", press.keep(2), -2);
        due("keep none", press.keep(-1), -2);
        due("keep", press.keep(1), 1);
        lines("trades", press, "a>b 1 k;b>c 2 l *;");
        due("keep again", press.keep(1), 0);
        lines("trades", press, "a>b 1 k;b>c 2 l;");
        due("undo", press.undo(), 1);
        lines("trades", press, "a>b 1 k;b>c 2 l *;");
        press.drop(1);
        due("a new one isn't kept", press.tradeOf(press.trade(1, 2, 2, 1), 4), 0);
    }

    private static void modes() {
        SwapPress press = new SwapPress();
        for (int mode = 0; mode <= 3; mode++) {
            due("mode", press.mode(mode), Math.max(0, mode - 1));
            due("count(4)", press.count(4), mode);
        }
        due("mode -1", press.mode(-1), -3);
        due("mode 4", press.mode(4), -3);
        due("count(4)", press.count(4), 3);
        due("the same mode is an act", press.mode(3), 3);
        due("acts", press.count(5), 5);
    }

    private static void caps() {
        SwapPress press = Checks.told(THREE + "mode 2;");
        due("cap", press.cap(0, 1, 5), 99999999);
        due("cap", press.cap(0, 1, 99999999), 5);
        due("cap", press.cap(0, 1, 0), 99999999);
        due("the other way", press.bound(1, 0, 1), 99999999);
        due("bound", press.bound(0, 1, 1), 0);
        due("cap of itself", press.cap(1, 1, 5), -2);
        due("cap of none", press.cap(0, 3, 5), -2);
        due("cap of none, no number", press.cap(-1, 0, -1), -2);
        due("cap below 0", press.cap(0, 1, -1), -3);
        due("cap beyond", press.cap(0, 1, 100000000), -3);
        due("undo", press.undo(), 2);
        due("bound", press.bound(0, 1, 0), 99999999);
        due("undo", press.undo(), 1);
        due("bound", press.bound(0, 1, 0), 5);
    }

    private static void takingRings() {
        SwapPress press = Checks.told(THREE + "trade a b 30 k;trade b c 60 k;trade a b 20 k;trade a b 9 l;"
            + "trade c a 35 k;trade a b 15 k;trade b a 7 l;trade a b 4 k;keep 7;");
        due("takeRing", press.takeRing(0), 35);
        lines("latest first", press, "a>b 30 k;b>c 25 k;a>b 9 l;b>a 7 l;a>b 4 k *;");
        due("takeRing", press.takeRing(0), -5);
        due("takeRing", press.takeRing(1), 7);
        lines("the other kind", press, "a>b 30 k;b>c 25 k;a>b 2 l;a>b 4 k *;");
        due("takeRing of none", press.takeRing(2), -2);
        due("takeRing of none", press.takeRing(-1), -2);
        due("undo", press.undo(), 1);
        due("undo", press.undo(), 0);
        due("trades", press.count(2), 8);
        due("amount", press.tradeOf(5, 2), 15);
        SwapPress kept = Checks.told(THREE + "trade a b 5 k;trade b a 5 k;keep 0;");
        due("no ring over a kept one", kept.takeRing(0), -5);
    }

    private static void pressing() {
        SwapPress press = Checks.told(THREE + "trade a b 30 k;trade b c 20 k;trade b a 5 l;trade b a 8 k;"
            + "trade a c 2 k;keep 4;");
        due("press", press.press(0), 4);
        lines("pressed", press, "b>a 5 l;a>c 2 k *;a>b 22 k;b>c 20 k;");
        due("press again", press.press(0), 4);
        lines("pressed again", press, "b>a 5 l;a>c 2 k *;a>b 22 k;b>c 20 k;");
        due("acts", press.count(5), 2);
        press.mode(2);
        due("press in mode 2", press.press(0), 4);
        lines("pressed in mode 2", press, "b>a 5 l;a>c 2 k *;a>b 2 k;a>c 20 k;");
        due("press of none", press.press(2), -2);
        due("press of none", press.press(-1), -2);
        press.cap(0, 1, 0);
        press.cap(0, 2, 0);
        due("it can't be", press.press(0), -5);
        due("acts", press.count(5), 6);
        SwapPress large = Checks.told(THREE + "trade a b 999999 k;".repeat(30));
        due("press of many", large.press(0), 1);
        lines("a large one", large, "a>b 29999970 k;");
        due("nothing to press", large.press(1), 1);
        SwapPress none = Checks.told("kind k;");
        due("press without parties", none.press(0), 0);
        due("an act", none.count(5), 1);
    }

    /** 38 kept ones and three couples that stay above 0: one too many. */
    private static void pressingTooMany() {
        StringBuilder text = new StringBuilder(Checks.parties(4) + "kind k;mode 2;");
        text.append("trade a b 6 k;trade c d 4 k;cap a b 5;");
        SwapPress press = Checks.told(text.toString());
        for (int i = 2; i < 40; i++) {
            press.trade(0, 1, 1, 0);
            press.keep(i);
        }
        due("least", press.least(0), 10);
        due("couples", press.couples(0), 3);
        due("too many", press.press(0), -4);
        due("trades", press.count(2), 40);
        press.cap(0, 1, 0);
        press.cap(0, 2, 0);
        press.cap(0, 3, 0);
        due("it can't be, ahead of too many", press.press(0), -5);
        press.undo();
        press.undo();
        press.undo();
        press.drop(39);
        due("not too many", press.press(0), 40);
    }

    private static void undoing() {
        SwapPress press = Checks.told(THREE);
        for (int i = 1; i <= 13; i++) {
            press.trade(0, 1, i, 0);
        }
        due("acts", press.count(5), 10);
        for (int i = 9; i >= 0; i--) {
            due("undo", press.undo(), i);
            due("trades", press.count(2), 3 + i);
        }
        due("undo", press.undo(), -5);
        lines("trades", press, "a>b 1 k;a>b 2 k;a>b 3 k;");
        due("trade", press.trade(1, 2, 9, 1), 3);
        due("acts", press.count(5), 1);
        due("undo", press.undo(), 0);
        press.mode(2);
        press.cap(1, 2, 7);
        press.keep(0);
        press.press(0);
        lines("pressed", press, "a>b 1 k *;a>b 5 k;");
        press.undo();
        lines("unpressed", press, "a>b 1 k *;a>b 2 k;a>b 3 k;");
        press.undo();
        lines("unkept", press, "a>b 1 k;a>b 2 k;a>b 3 k;");
        due("cap", press.bound(1, 2, 0), 7);
        press.undo();
        due("uncapped", press.bound(1, 2, 0), 99999999);
        due("undo", press.undo(), 0);
        due("mode", press.count(4), 0);
        Checks.tell(press, "party a;party b;kind k;");
        due("undo behind a text", press.undo(), -5);
    }

    private static void refusedAreNoActs() {
        SwapPress press = Checks.told(THREE + "trade a b 1 k;");
        press.trade(0, 0, 1, 0);
        press.trade(0, 1, 0, 0);
        press.drop(7);
        press.keep(7);
        press.mode(7);
        press.cap(0, 0, 1);
        press.cap(0, 1, -1);
        press.takeRing(0);
        press.takeRing(7);
        press.press(7);
        due("acts", press.count(5), 0);
        due("undo", press.undo(), -5);
    }
}

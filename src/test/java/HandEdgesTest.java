import java.util.function.Consumer;
import java.util.function.ToIntFunction;

/** Each sentence of the document on ACTS, by promises 5 to 12, that names an edge. */
public final class HandEdgesTest {
    private static final String THREE = "party a;party b;party c;kind k;kind l;";
    private static final Checks CHECKS = new Checks("HandEdgesTest");

    public static void main(String[] args) {
        amountsInBounds();
        fortyTrades();
        tradeTellsFirst();
        dropFirstAndLast();
        keptGoAlong();
        keepTurns();
        modeAnswersWhatItWas();
        capsInBounds();
        capTellsFirst();
        latestTradesHaveLess();
        usedUpTradesGo();
        ringOfEightTaken();
        noRingToTake();
        pressByNumbersOfCouples();
        pressLeavesOtherTrades();
        pressToNothing();
        pressToExactlyForty();
        pressCannotBe();
        pressTellsFirst();
        largeTrades();
        actsEvenIfAllIsAsItWas();
        refusedAreNoActs();
        asksAreNoActs();
        tenActsCanBeUndone();
        eachActUndone();
        undoneThenAnother();
        takenTextForgetsActs();
        undoLeavesTapeAndFault();
        CHECKS.end();
    }

    private static void due(String call, long got, long want) {
        CHECKS.due(call, got, want);
    }

    private static void lines(String call, SwapPress press, String want) {
        CHECKS.due(call, Checks.lines(press), want);
    }

    private static void refused(String call, Consumer<SwapPress> made, ToIntFunction<SwapPress> asked, int code) {
        Whole.unchanged(CHECKS, call, made, asked, code);
    }

    private static void some(SwapPress press) {
        Checks.tell(press, THREE + "trade a b 7 k;trade b c 5 k;trade b a 2 l;keep 0;mode 1;");
        press.trade(2, 0, 3, 0);
        press.cap(1, 0, 6);
    }

    private static void forty(SwapPress press) {
        Checks.tell(press, THREE + "trade a b 5 k;".repeat(39));
        press.trade(1, 2, 6, 1);
    }

    // ---- trade

    /** "an AMOUNT (1 to 999999)"; "-3: the AMOUNT". */
    private static void amountsInBounds() {
        for (int amount : new int[] {1, 2, 999998, 999999}) {
            SwapPress press = Checks.told(THREE);
            due("trade of " + amount, press.trade(2, 0, amount, 1), 0);
            due("its amount", press.tradeOf(0, 2), amount);
        }
        for (int amount : new int[] {0, -1, 1000000, Integer.MIN_VALUE, Integer.MAX_VALUE}) {
            refused("trade of " + amount, HandEdgesTest::some, press -> press.trade(0, 1, amount, 0), -3);
        }
    }

    /** "A TRADE comes behind all: its number"; "-4: there are 40". */
    private static void fortyTrades() {
        SwapPress press = Checks.told(THREE);
        for (int i = 0; i < 40; i++) {
            due("its number", press.trade(i % 3, (i + 1) % 3, i + 1, i % 2), i);
        }
        due("the 41st", press.trade(0, 1, 1, 0), -4);
        for (int i = 0; i < 40; i++) {
            due("behind all", press.tradeOf(i, 2), i + 1);
        }
        due("drop", press.drop(7), 39);
        due("a 40th again", press.trade(0, 1, 77, 0), 39);
        due("it is behind all", press.tradeOf(39, 2), 77);
        due("the 41st", press.trade(0, 1, 1, 0), -4);
        refused("the 41st", HandEdgesTest::forty, full -> full.trade(0, 1, 1, 0), -4);
    }

    /** "-2; -3: the AMOUNT; -4: there are 40." */
    private static void tradeTellsFirst() {
        refused("no party, amount, 40", HandEdgesTest::forty, press -> press.trade(3, 1, 0, 0), -2);
        refused("itself, amount, 40", HandEdgesTest::forty, press -> press.trade(1, 1, 0, 0), -2);
        refused("no kind, amount, 40", HandEdgesTest::forty, press -> press.trade(0, 1, 1000000, 2), -2);
        refused("no kind, 40", HandEdgesTest::forty, press -> press.trade(0, 1, 1, -1), -2);
        refused("amount, 40", HandEdgesTest::forty, press -> press.trade(0, 1, 1000000, 0), -3);
        refused("amount", HandEdgesTest::some, press -> press.trade(0, 1, 0, 1), -3);
        refused("no party, amount", HandEdgesTest::some, press -> press.trade(-1, 1, 0, 1), -2);
        SwapPress none = new SwapPress();
        due("no party at all", none.trade(0, 1, 0, 0), -2);
    }

    // ---- drop, keep

    /** "A TRADE goes (those behind it are one less): how many are left." */
    private static void dropFirstAndLast() {
        String four = THREE + "trade a b 1 k;trade b c 2 l;trade c a 3 k;trade a c 4 l;";
        SwapPress first = Checks.told(four);
        due("drop(0)", first.drop(0), 3);
        lines("the first goes", first, "b>c 2 l;c>a 3 k;a>c 4 l;");
        SwapPress last = Checks.told(four);
        due("drop(3)", last.drop(3), 3);
        lines("the last goes", last, "a>b 1 k;b>c 2 l;c>a 3 k;");
        due("drop(3) again", last.drop(3), -2);
        SwapPress all = Checks.told(four);
        for (int left = 3; left >= 0; left--) {
            due("drop(0)", all.drop(0), left);
        }
        due("drop(0) of none", all.drop(0), -2);
        SwapPress full = new SwapPress();
        forty(full);
        due("drop(40)", full.drop(40), -2);
        due("drop(39)", full.drop(39), 39);
        for (int trade : new int[] {-1, 4, Integer.MIN_VALUE, Integer.MAX_VALUE}) {
            refused("drop(" + trade + ")", HandEdgesTest::some, press -> press.drop(trade), -2);
        }
    }

    /** Behind one that goes, each keeps all it has, KEPT or not. */
    private static void keptGoAlong() {
        SwapPress press = Checks.told(THREE + "trade a b 1 k;trade b c 2 l;trade c a 3 k;keep 0;keep 2;");
        press.drop(0);
        lines("kept goes along", press, "b>c 2 l;c>a 3 k *;");
        due("kept ones", press.count(3), 1);
        press.drop(1);
        lines("kept is gone", press, "b>c 2 l;");
        due("kept ones", press.count(3), 0);
        due("a new one", press.trade(0, 1, 9, 0), 1);
        due("isn't kept", press.tradeOf(1, 4), 0);
    }

    /** "A TRADE is KEPT, or is no more, if it was: 1 if it is then, else 0." */
    private static void keepTurns() {
        SwapPress press = new SwapPress();
        forty(press);
        for (int trade : new int[] {0, 39}) {
            due("keep", press.keep(trade), 1);
            due("kept", press.tradeOf(trade, 4), 1);
            due("keep again", press.keep(trade), 0);
            due("kept no more", press.tradeOf(trade, 4), 0);
            due("keep a third time", press.keep(trade), 1);
        }
        due("kept ones", press.count(3), 2);
        due("others aren't", press.tradeOf(1, 4), 0);
        due("keep(40)", press.keep(40), -2);
        for (int trade : new int[] {-1, 4, Integer.MIN_VALUE, Integer.MAX_VALUE}) {
            refused("keep(" + trade + ")", HandEdgesTest::some, some -> some.keep(trade), -2);
        }
    }

    // ---- mode, cap

    /** "The mode: what it was. -3." */
    private static void modeAnswersWhatItWas() {
        int was = 0;
        SwapPress press = new SwapPress();
        for (int mode : new int[] {3, 0, 2, 2, 1, 3}) {
            due("mode", press.mode(mode), was);
            due("count(4)", press.count(4), mode);
            was = mode;
        }
        for (int mode : new int[] {-1, 4, Integer.MIN_VALUE, Integer.MAX_VALUE}) {
            refused("mode(" + mode + ")", HandEdgesTest::some, some -> some.mode(mode), -3);
        }
    }

    /** "CAP of an ordered couple of PARTIES (0 to 99999999; 99999999 without"; "what it was". */
    private static void capsInBounds() {
        SwapPress press = Checks.told(Checks.parties(8) + "kind k;kind l;mode 2;");
        due("cap without", press.cap(7, 0, 0), 99999999);
        due("cap 0", press.cap(7, 0, 99999999), 0);
        due("cap 99999999", press.cap(7, 0, 99999998), 99999999);
        due("cap 99999998", press.cap(7, 0, 1), 99999998);
        due("of all kinds", press.bound(7, 0, 0) + press.bound(7, 0, 1), 2);
        due("the other way", press.cap(0, 7, 5), 99999999);
        due("the one way", press.cap(7, 0, 1), 1);
        for (int cap : new int[] {-1, 100000000, Integer.MIN_VALUE, Integer.MAX_VALUE}) {
            refused("cap of " + cap, HandEdgesTest::some, some -> some.cap(0, 1, cap), -3);
        }
        refused("cap of itself", HandEdgesTest::some, some -> some.cap(1, 1, 5), -2);
        refused("cap of none", HandEdgesTest::some, some -> some.cap(0, 3, 5), -2);
        refused("cap of none", HandEdgesTest::some, some -> some.cap(-1, 0, 5), -2);
    }

    /** "-2; -3." */
    private static void capTellsFirst() {
        refused("no party, cap", HandEdgesTest::some, press -> press.cap(3, 0, -1), -2);
        refused("no party, cap", HandEdgesTest::some, press -> press.cap(0, -1, 100000000), -2);
        refused("itself, cap", HandEdgesTest::some, press -> press.cap(2, 2, -1), -2);
    }

    // ---- takeRing

    /** "TRADES of that couple, the latest first, have so much less". */
    private static void latestTradesHaveLess() {
        SwapPress press = Checks.told(THREE + "trade a b 10 k;trade b a 3 k;trade a b 9 l;trade a b 4 k;");
        due("part of the latest", press.takeRing(0), 3);
        lines("part of the latest", press, "a>b 10 k;a>b 9 l;a>b 1 k;");
        press.undo();
        press.trade(1, 0, 6, 0);
        due("all of it, part of the one ahead", press.takeRing(0), 9);
        lines("all of it, part of the one ahead", press, "a>b 5 k;a>b 9 l;");
        press.undo();
        press.trade(1, 0, 5, 0);
        due("all of both", press.takeRing(0), 14);
        lines("all of both", press, "a>b 9 l;");
    }

    /** "(one with nothing left goes; those behind it are one less)". */
    private static void usedUpTradesGo() {
        SwapPress press = Checks.told(THREE + "trade c a 5 l;trade a b 2 k;trade c b 1 l;trade a b 4 k;"
            + "trade b a 4 k;trade b c 1 l;trade a b 8 k;keep 6;");
        due("takeRing", press.takeRing(0), 4);
        lines("just used up", press, "c>a 5 l;a>b 2 k;c>b 1 l;b>c 1 l;a>b 8 k *;");
        due("takeRing", press.takeRing(1), 1);
        lines("both used up", press, "c>a 5 l;a>b 2 k;a>b 8 k *;");
        due("kept ones", press.count(3), 1);
    }

    /** A ring of as many PARTIES as there can be. */
    private static void ringOfEightTaken() {
        StringBuilder text = new StringBuilder(Checks.parties(8) + "kind k;");
        for (int i = 0; i < 8; i++) {
            text.append("trade ").append((char) ('a' + i)).append(' ').append((char) ('a' + (i + 1) % 8))
                .append(' ').append(999999 - i % 7).append(" k;");
        }
        SwapPress press = Checks.told(text.toString());
        due("ring", press.ring(0, -1), 8);
        due("takeRing", press.takeRing(0), 999993);
        lines("what is left", press, "a>b 6 k;b>c 5 k;c>d 4 k;d>e 3 k;e>f 2 k;f>g 1 k;h>a 6 k;");
        due("takeRing again", press.takeRing(0), -5);
    }

    /** "-2; -5: there is none." */
    private static void noRingToTake() {
        refused("no ring", HandEdgesTest::some, press -> press.takeRing(1), -5);
        refused("no kind", HandEdgesTest::some, press -> press.takeRing(2), -2);
        refused("no kind", HandEdgesTest::some, press -> press.takeRing(-1), -2);
        refused("no kind of none", press -> { }, press -> press.takeRing(0), -2);
        refused("no party", press -> Checks.tell(press, "kind k;"), press -> press.takeRing(0), -5);
        refused("a kept one", press -> Checks.tell(press, THREE + "trade a b 1 k;trade b a 1 k;keep 1;"),
            press -> press.takeRing(0), -5);
        refused("of two kinds", press -> Checks.tell(press, THREE + "trade a b 1 k;trade b a 1 l;"),
            press -> press.takeRing(0), -5);
    }

    // ---- press

    /** "for each couple that is above 0 by PRESSED a TRADE of so much comes behind all, by numbers of couples". */
    private static void pressByNumbersOfCouples() {
        SwapPress press = Checks.told(THREE + "trade c b 4 k;trade b a 1 l;trade c a 3 k;trade b a 2 k;");
        due("press", press.press(0), 4);
        lines("by numbers", press, "b>a 1 l;b>a 2 k;c>a 3 k;c>b 4 k;");
        SwapPress two = Checks.told(THREE + "trade a b 4 k;trade a b 5 k;trade b a 9 l;trade a b 6 k;");
        due("three become one", two.press(0), 2);
        lines("three become one", two, "b>a 9 l;a>b 15 k;");
    }

    /** "TRADES of a KIND that aren't KEPT go": no others, and none of other kinds. */
    private static void pressLeavesOtherTrades() {
        SwapPress press = Checks.told(THREE + "trade a b 4 k;trade a b 4 l;trade b a 4 k;trade b a 4 l;"
            + "trade b c 4 k;keep 2;keep 3;");
        due("press", press.press(0), 5);
        lines("kept and others stay", press, "a>b 4 l;b>a 4 k *;b>a 4 l *;a>b 4 k;b>c 4 k;");
    }

    /** All come to nothing; nothing is there; all are KEPT; no PARTY. */
    private static void pressToNothing() {
        SwapPress ring = Checks.told(THREE + "trade a b 4 k;trade b c 4 k;trade c a 4 k;trade a b 4 l;");
        due("a ring goes", ring.press(0), 1);
        lines("a ring goes", ring, "a>b 4 l;");
        due("nothing there", ring.press(0), 1);
        SwapPress kept = Checks.told(THREE + "trade a b 4 k;trade b a 4 k;keep 0;keep 1;");
        due("all kept", kept.press(0), 2);
        lines("all kept", kept, "a>b 4 k *;b>a 4 k *;");
        SwapPress none = Checks.told("kind k;");
        due("no party", none.press(0), 0);
        due("an act", none.count(5), 1);
        SwapPress shut = Checks.told(THREE + "mode 2;cap a b 0;cap b a 0;trade a b 4 k;trade b a 4 k;");
        due("within caps of 0", shut.press(0), 0);
    }

    /** "-4: there would be more than 40": 40 may be, 41 may not. */
    private static void pressToExactlyForty() {
        Consumer<SwapPress> two = press -> {
            Checks.tell(press, THREE + "mode 2;cap a b 5;trade a b 6 k;" + "trade a b 1 l;".repeat(37));
        };
        SwapPress press = new SwapPress();
        two.accept(press);
        due("couples", press.couples(0), 3);
        due("trades", press.count(2), 38);
        due("37 and 3", press.press(0), 40);
        Consumer<SwapPress> oneMore = more -> {
            two.accept(more);
            more.trade(1, 0, 1, 1);
        };
        refused("38 and 3", oneMore, more -> more.press(0), -4);
        SwapPress full = new SwapPress();
        forty(full);
        due("40 to 2", full.press(0), 2);
        SwapPress three = Checks.told(THREE + "trade a b 1 k;trade b c 3 k;".repeat(20));
        due("40 of one kind to 2", three.press(0), 2);
        lines("40 of one kind to 2", three, "a>b 20 k;b>c 60 k;");
        SwapPress same = Checks.told(THREE + "trade a b 1 k;" + "trade a b 1 l;".repeat(39));
        due("40 stay 40", same.press(0), 40);
    }

    /** "-5: it can't be PRESSED". */
    private static void pressCannotBe() {
        Consumer<SwapPress> stuck = press -> {
            Checks.tell(press, THREE + "trade a b 5 k;trade b c 4 l;mode 2;cap a b 2;cap a c 2;");
            press.keep(1);
        };
        refused("it can't be", stuck, press -> press.press(0), -5);
        SwapPress press = new SwapPress();
        stuck.accept(press);
        due("another kind can", press.press(1), 2);
        press.cap(0, 2, 3);
        due("one more and it can", press.press(0), 4);
        lines("then", press, "b>c 4 l *;a>b 2 k;a>c 3 k;c>b 3 k;");
    }

    /** "-2; -5: it can't be PRESSED; -4: there would be more than 40." */
    private static void pressTellsFirst() {
        Consumer<SwapPress> stuckAndFull = press -> Checks.tell(press,
            THREE + "mode 2;cap a b 5;cap a c 0;trade a b 6 k;" + "trade a b 1 l;".repeat(39));
        refused("no kind", stuckAndFull, press -> press.press(2), -2);
        refused("no kind", stuckAndFull, press -> press.press(-1), -2);
        refused("it can't be", stuckAndFull, press -> press.press(0), -5);
        SwapPress press = new SwapPress();
        stuckAndFull.accept(press);
        press.cap(0, 2, 1);
        due("too many", press.press(0), -4);
        due("acts", press.count(5), 1);
    }

    /** "a TRADE of so much": be it above 999999. */
    private static void largeTrades() {
        SwapPress press = Checks.told(THREE + "trade a b 999999 k;".repeat(40));
        due("press", press.press(0), 1);
        due("amount", press.tradeOf(0, 2), 39999960);
        lines("line", press, "a>b 39999960 k;");
        due("undo", press.undo(), 0);
        due("trades", press.count(2), 40);
    }

    // ---- acts

    /** "ACTS: .. that aren't refused (even if all is as it was)". */
    private static void actsEvenIfAllIsAsItWas() {
        SwapPress press = Checks.told(THREE + "trade a b 5 k;");
        press.mode(0);
        due("the same mode", press.count(5), 1);
        press.cap(0, 1, 99999999);
        due("the same cap", press.count(5), 2);
        press.press(0);
        due("pressed as it was", press.count(5), 3);
        press.press(1);
        due("nothing to press", press.count(5), 4);
        lines("as it was", press, "a>b 5 k;");
        for (int left = 3; left >= 0; left--) {
            due("undo", press.undo(), left);
            lines("as it was", press, "a>b 5 k;");
        }
        due("undo", press.undo(), -5);
    }

    /** Refused ones are none: the ten that can be undone stay those ten. */
    private static void refusedAreNoActs() {
        Consumer<SwapPress> ten = press -> {
            Checks.tell(press, THREE);
            for (int i = 1; i <= 12; i++) {
                press.trade(0, 1, i, 0);
            }
        };
        refused("trade", ten, press -> press.trade(0, 0, 1, 0), -2);
        refused("trade", ten, press -> press.trade(0, 1, 0, 0), -3);
        refused("drop", ten, press -> press.drop(12), -2);
        refused("keep", ten, press -> press.keep(12), -2);
        refused("mode", ten, press -> press.mode(4), -3);
        refused("cap", ten, press -> press.cap(0, 0, 1), -2);
        refused("cap", ten, press -> press.cap(0, 1, -1), -3);
        refused("takeRing", ten, press -> press.takeRing(0), -5);
        refused("takeRing", ten, press -> press.takeRing(2), -2);
        refused("press", ten, press -> press.press(2), -2);
        refused("tell", ten, press -> press.tell(1), -3);
    }

    /** What is asked is no act and changes nothing, even where it looks at what would be. */
    private static void asksAreNoActs() {
        Whole.same(CHECKS, "asking", press -> {
            some(press);
            for (int kind = 0; kind < 2; kind++) {
                press.cleared(kind, 0);
                press.rounds(kind, 99);
                press.chain(kind, -1);
                press.fewest(kind, 0);
                press.relieved(kind);
                press.couples(kind);
                for (int party = 0; party < 3; party++) {
                    press.without(party, kind);
                    press.relief(party, kind);
                    press.gain(party, (party + 1) % 3, kind);
                    press.enough(party, (party + 1) % 3, kind);
                    press.span(party, (party + 1) % 3, kind, 1);
                    press.span(party, (party + 2) % 3, kind, 0);
                }
            }
            press.all();
            press.even(3, 0);
        }, HandEdgesTest::some);
    }

    /** "the latest 10 can be UNDONE"; "how many still can be. -5: none can." */
    private static void tenActsCanBeUndone() {
        for (int acts : new int[] {1, 9, 10, 11, 25}) {
            SwapPress press = Checks.told(THREE);
            for (int i = 1; i <= acts; i++) {
                press.trade(0, 1, i, 0);
                due("acts", press.count(5), Math.min(i, 10));
            }
            for (int left = Math.min(acts, 10) - 1; left >= 0; left--) {
                due("undo", press.undo(), left);
                due("acts", press.count(5), left);
            }
            due("undo", press.undo(), -5);
            due("acts", press.count(5), 0);
            due("trades", press.count(2), Math.max(0, acts - 10));
        }
        refused("nothing to undo", press -> Checks.tell(press, THREE + "trade a b 5 k;"), SwapPress::undo, -5);
        refused("nothing to undo of a new one", press -> { }, SwapPress::undo, -5);
    }

    /** "The latest ACT is UNDONE": be it any of the seven. */
    private static void eachActUndone() {
        undone("trade", press -> press.trade(2, 1, 9, 1));
        undone("drop the first", press -> press.drop(0));
        undone("drop the last", press -> press.drop(3));
        undone("keep", press -> press.keep(1));
        undone("keep no more", press -> press.keep(0));
        undone("mode", press -> press.mode(3));
        undone("cap", press -> press.cap(0, 1, 1));
        undone("cap again", press -> press.cap(1, 0, 99999999));
        undone("press", press -> press.press(0));
        undone("press the other", press -> press.press(1));
        Consumer<SwapPress> ring = press -> Checks.tell(press,
            THREE + "trade a b 4 k;trade b a 3 k;trade a c 5 k;trade b a 1 k;keep 2;");
        Whole.same(CHECKS, "takeRing undone", press -> {
            ring.accept(press);
            due("takeRing", press.takeRing(0), 4);
            due("undo", press.undo(), 0);
        }, ring);
        Whole.same(CHECKS, "press undone", press -> {
            ring.accept(press);
            due("press", press.press(0), 1);
            due("undo", press.undo(), 0);
        }, ring);
    }

    private static void undone(String act, Consumer<SwapPress> acting) {
        Whole.same(CHECKS, act + " undone", press -> {
            some(press);
            press.least(0);
            acting.accept(press);
            press.least(0);
            due("acts", press.count(5), 3);
            due("undo", press.undo(), 2);
        }, HandEdgesTest::some);
    }

    /** What was undone is gone; the next act comes behind those that are left. */
    private static void undoneThenAnother() {
        SwapPress press = Checks.told(THREE);
        press.trade(0, 1, 1, 0);
        press.trade(0, 1, 2, 0);
        press.undo();
        press.trade(0, 1, 3, 0);
        due("acts", press.count(5), 2);
        lines("trades", press, "a>b 1 k;a>b 3 k;");
        due("undo", press.undo(), 1);
        lines("trades", press, "a>b 1 k;");
        due("undo", press.undo(), 0);
        due("undo", press.undo(), -5);
        for (int i = 0; i < 30; i++) {
            press.mode(i % 4);
            press.mode(3);
            press.undo();
            due("mode", press.count(4), i % 4);
        }
        due("ten, one of them undone", press.count(5), 9);
    }

    /** "(tell() that is taken forgets them)": one that isn't taken does not. */
    private static void takenTextForgetsActs() {
        SwapPress press = Checks.told(THREE + "trade a b 5 k;");
        press.keep(0);
        press.mode(2);
        press.tell(1);
        due("tell refused", press.count(5), 2);
        Checks.tell(press, "mode 4;");
        due("a faulty text", press.count(5), 2);
        due("undo", press.undo(), 1);
        due("mode", press.count(4), 0);
        due("tell(0)", press.tell(0), 0);
        due("acts", press.count(5), 0);
        due("undo", press.undo(), -5);
        due("trades", press.count(2), 0);
    }

    /** feed() and tell() are no ACTS. */
    private static void undoLeavesTapeAndFault() {
        SwapPress press = Checks.told(THREE + "trade a b 5 k;");
        press.drop(0);
        Checks.tell(press, "mode 4;");
        press.feed(0, 0, 0, 0, 0);
        due("undo", press.undo(), 0);
        due("tape", press.count(6), 20);
        due("fault", press.fault(0), 2);
        due("place", press.fault(1), 5);
        due("trades", press.count(2), 1);
    }
}

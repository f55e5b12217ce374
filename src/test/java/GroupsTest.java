/** Promises 35 and 36: fewest, even. */
public final class GroupsTest {
    private static final Checks CHECKS = new Checks("GroupsTest");

    public static void main(String[] args) {
        SwapPress press = Checks.told(Checks.parties(8) + "kind k;kind l;kind m;"
            + "trade a b 5 k;trade c d 7 k;trade e f 5 k;trade a d 2 k;trade g h 1 k;keep 4;"
            + "trade a b 1 l;trade b c 1 l;trade c a 1 l;");
        due("nets 7 -5 7 -9 5 -5: fewest", press.fewest(0, 0), 4);
        due("groups", press.fewest(0, 1), 2);
        due("a ring has none", press.fewest(1, 0), 0);
        due("a ring has none", press.fewest(1, 1), 0);
        due("nothing told", press.fewest(2, 0), 0);
        due("nothing told", press.fewest(2, 1), 0);
        due("no what", press.fewest(0, 2), -2);
        due("no what", press.fewest(0, -1), -2);
        due("no kind", press.fewest(3, 0), -2);
        due("no kind", press.fewest(-1, 0), -2);
        due("e, f", press.even(0x30, 0), 1);
        due("b, e", press.even(0x12, 0), 1);
        due("a, b", press.even(3, 0), 0);
        due("g, h are kept", press.even(0xC0, 0), 1);
        due("a, g", press.even(0x41, 0), 0);
        due("all", press.even(0xFF, 0), 1);
        due("one", press.even(0x40, 0), -3);
        due("none", press.even(0, 0), -3);
        due("of no party", press.even(0x103, 0), -2);
        due("of no party, one", press.even(0x100, 0), -2);
        due("below 0", press.even(-1, 0), -2);
        due("no kind", press.even(3, 3), -2);
        due("no kind, none", press.even(0, -1), -2);
        press.keep(4);
        due("unkept: fewest", press.fewest(0, 0), 5);
        due("unkept: groups", press.fewest(0, 1), 3);
        due("a, g unkept", press.even(0xC1, 0), 0);
        fourPairs();
        CHECKS.end();
    }

    private static void fourPairs() {
        SwapPress press = Checks.told(Checks.parties(8) + "kind k;"
            + "trade a h 4 k;trade b g 3 k;trade c f 2 k;trade d e 1 k;");
        due("pairs: fewest", press.fewest(0, 0), 4);
        due("pairs: groups", press.fewest(0, 1), 4);
        SwapPress none = Checks.told("kind k;");
        due("no bits", none.even(0, 0), -3);
        due("bits of no party", none.even(3, 0), -2);
        due("no parties", none.fewest(0, 0), 0);
    }

    private static void due(String call, long got, long want) {
        CHECKS.due(call, got, want);
    }
}

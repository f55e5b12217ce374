/** Promises 13 to 18: tradeOf, flow, net, side, total, bound. */
public final class NetsTest {
    private static final Checks CHECKS = new Checks("NetsTest");

    public static void main(String[] args) {
        SwapPress press = Checks.told("party a;party b;party c;party d;kind k;kind l;"
            + "trade a b 10 k;trade a b 5 k;trade b a 3 k;trade c a 7 k;trade b c 100 l;trade a c 40 k;"
            + "trade d a 6 k;keep 5;keep 1;cap a b 77;");
        trades(press);
        flows(press);
        nets(press);
        sides(press);
        totals(press);
        bounds(press);
        CHECKS.end();
    }

    private static void due(String call, long got, long want) {
        CHECKS.due(call, got, want);
    }

    private static void trades(SwapPress press) {
        int[] sixth = {0, 2, 40, 0, 1};
        int[] fifth = {1, 2, 100, 1, 0};
        for (int what = 0; what < 5; what++) {
            due("tradeOf(5, " + what + ")", press.tradeOf(5, what), sixth[what]);
            due("tradeOf(4, " + what + ")", press.tradeOf(4, what), fifth[what]);
        }
        due("tradeOf(7, 0)", press.tradeOf(7, 0), -2);
        due("tradeOf(-1, 0)", press.tradeOf(-1, 0), -2);
        due("tradeOf(0, 5)", press.tradeOf(0, 5), -2);
        due("tradeOf(0, -1)", press.tradeOf(0, -1), -2);
    }

    private static void flows(SwapPress press) {
        due("without the kept one", press.flow(0, 1, 0), 10);
        due("the other way", press.flow(1, 0, 0), 3);
        due("kept alone", press.flow(0, 2, 0), 0);
        due("other kind", press.flow(1, 2, 1), 100);
        due("none", press.flow(2, 1, 1), 0);
        due("itself", press.flow(2, 2, 1), -2);
        due("no party", press.flow(4, 2, 1), -2);
        due("no party", press.flow(0, -1, 1), -2);
        due("no kind", press.flow(0, 1, 2), -2);
        due("no kind", press.flow(0, 1, -1), -2);
    }

    private static void nets(SwapPress press) {
        due("net", press.net(0, 0, false), 100000000 + 55 - 16);
        due("free net", press.net(0, 0, true), 100000000 + 10 - 16);
        due("net", press.net(1, 0, false), 100000000 + 3 - 15);
        due("free net", press.net(1, 0, true), 100000000 + 3 - 10);
        due("other kind", press.net(2, 1, true), 99999900);
        due("nothing", press.net(3, 1, true), 100000000);
        due("no party", press.net(4, 0, true), -2);
        due("no party", press.net(-1, 0, false), -2);
        due("no kind", press.net(0, 2, false), -2);
    }

    private static void sides(SwapPress press) {
        due("from", press.side(0, 0, 0), 55);
        due("to", press.side(0, 0, 1), 16);
        due("with", press.side(0, 0, 2), 3);
        due("with", press.side(2, 0, 2), 1);
        due("with", press.side(1, 1, 2), 1);
        due("with none", press.side(3, 1, 2), 0);
        due("no what", press.side(0, 0, 3), -2);
        due("no what", press.side(0, 0, -1), -2);
        due("no party", press.side(4, 0, 0), -2);
        due("no kind", press.side(0, 2, 0), -2);
    }

    private static void totals(SwapPress press) {
        due("total", press.total(0, 0), 26);
        due("couples", press.total(0, 1), 4);
        due("kept", press.total(0, 2), 45);
        due("nets above 0", press.total(0, 3), 13);
        due("other kind", press.total(1, 0), 100);
        due("other kind, kept", press.total(1, 2), 0);
        due("no what", press.total(0, 4), -2);
        due("no what", press.total(0, -1), -2);
        due("no kind", press.total(2, 0), -2);
    }

    private static void bounds(SwapPress press) {
        int[][] want = {{10, 3, 0}, {13, 13, 7}, {77, 99999999, 99999999}, {13, 13, 7}};
        for (int mode = 0; mode < 4; mode++) {
            press.mode(mode);
            due("mode " + mode + " bound(0, 1)", press.bound(0, 1, 0), want[mode][0]);
            due("mode " + mode + " bound(1, 0)", press.bound(1, 0, 0), want[mode][1]);
            due("mode " + mode + " bound(0, 2)", press.bound(0, 2, 0), want[mode][2]);
        }
        due("itself", press.bound(1, 1, 0), -2);
        due("no party", press.bound(1, 4, 0), -2);
        due("no kind", press.bound(1, 2, 2), -2);
    }
}

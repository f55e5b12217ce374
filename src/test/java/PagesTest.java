/** Promises 37 and 38: line, count. */
public final class PagesTest {
    private static final Checks CHECKS = new Checks("PagesTest");

    public static void main(String[] args) {
        lines();
        counts();
        CHECKS.end();
    }

    private static void lines() {
        SwapPress press = Checks.told("party abcdefgh;kind oil;party x;kind gasolins;"
            + "trade abcdefgh x 999999 gasolins;trade x abcdefgh 7 oil;keep 0;");
        CHECKS.due("line 0", Checks.line(press, 0), "abcdefgh>x 999999 gasolins *");
        CHECKS.due("line 1", Checks.line(press, 1), "x>abcdefgh 7 oil");
        CHECKS.due("line(0, 27)", press.line(0, 27), '*');
        CHECKS.due("line(0, 28)", press.line(0, 28), -1);
        CHECKS.due("line(1, 16)", press.line(1, 16), -1);
        CHECKS.due("line(1, max)", press.line(1, Integer.MAX_VALUE), -1);
        CHECKS.due("line(1, -1)", press.line(1, -1), -3);
        CHECKS.due("line(2, -1)", press.line(2, -1), -2);
        CHECKS.due("line(-1, 0)", press.line(-1, 0), -2);
        for (int i = 0; i < 30; i++) {
            press.trade(0, 1, 999999, 0);
        }
        press.press(0);
        CHECKS.due("a large amount", Checks.line(press, 1), "abcdefgh>x 29999963 oil");
    }

    private static void counts() {
        SwapPress press = Checks.told("party a;party b;party c;kind k;kind l;"
            + "trade a b 1 k;trade b c 1 l;trade c a 1 k;trade c b 1 k;keep 1;keep 3;mode 3;");
        press.mode(1);
        press.mode(2);
        press.feed(0, 0, 0, 0, 0);
        int[] want = {3, 2, 4, 2, 2, 2, 20};
        for (int what = 0; what < want.length; what++) {
            CHECKS.due("count(" + what + ")", press.count(what), want[what]);
        }
        CHECKS.due("count(7)", press.count(7), -1);
        CHECKS.due("count(-1)", press.count(-1), -1);
        CHECKS.due("count(min)", press.count(Integer.MIN_VALUE), -1);
    }
}

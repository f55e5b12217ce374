import java.util.ArrayList;
import java.util.List;
import java.util.function.Consumer;

/**
 * "Refused calls answer by a code and change nothing .. Of several that which the call tells first; all
 * these ahead of NONE": every call with every row of numbers at, in and out of its bounds.
 */
public final class RefusalsTest {
    private static final Checks CHECKS = new Checks("RefusalsTest");
    private static final int NO_SUCH = -2;
    private static final int BAD_NUMBER = -3;

    private interface Asked {
        int of(SwapPress press, int[] numbers);
    }

    /** Each letter of args is one number: P a party, K a kind, T a trade; lower ones stand in bounds(). */
    private record Call(String name, String args, Asked asked) {
        boolean couple() {
            return args.startsWith("PP");
        }
    }

    private record Start(String name, Consumer<SwapPress> made, int parties, int kinds, int trades) { }

    private static final List<Call> CALLS = List.of(
        new Call("trade", "PPaK", (p, n) -> p.trade(n[0], n[1], n[2], n[3])),
        new Call("drop", "T", (p, n) -> p.drop(n[0])),
        new Call("keep", "T", (p, n) -> p.keep(n[0])),
        new Call("mode", "m", (p, n) -> p.mode(n[0])),
        new Call("cap", "PPc", (p, n) -> p.cap(n[0], n[1], n[2])),
        new Call("takeRing", "K", (p, n) -> p.takeRing(n[0])),
        new Call("press", "K", (p, n) -> p.press(n[0])),
        new Call("tradeOf", "T4", (p, n) -> p.tradeOf(n[0], n[1])),
        new Call("flow", "PPK", (p, n) -> p.flow(n[0], n[1], n[2])),
        new Call("net", "PK", (p, n) -> p.net(n[0], n[1], false)),
        new Call("net free", "PK", (p, n) -> p.net(n[0], n[1], true)),
        new Call("side", "PK2", (p, n) -> p.side(n[0], n[1], n[2])),
        new Call("total", "K3", (p, n) -> p.total(n[0], n[1])),
        new Call("bound", "PPK", (p, n) -> p.bound(n[0], n[1], n[2])),
        new Call("ring", "Ki", (p, n) -> p.ring(n[0], n[1])),
        new Call("load", "K", (p, n) -> p.load(n[0])),
        new Call("cleared", "K2", (p, n) -> p.cleared(n[0], n[1])),
        new Call("rounds", "Kr", (p, n) -> p.rounds(n[0], n[1])),
        new Call("chain", "Ki", (p, n) -> p.chain(n[0], n[1])),
        new Call("least", "K", (p, n) -> p.least(n[0])),
        new Call("pressed", "PPK", (p, n) -> p.pressed(n[0], n[1], n[2])),
        new Call("couples", "K", (p, n) -> p.couples(n[0])),
        new Call("span", "PPKh", (p, n) -> p.span(n[0], n[1], n[2], n[3])),
        new Call("gain", "PPK", (p, n) -> p.gain(n[0], n[1], n[2])),
        new Call("without", "PK", (p, n) -> p.without(n[0], n[1])),
        new Call("relief", "PK", (p, n) -> p.relief(n[0], n[1])),
        new Call("through", "PK1", (p, n) -> p.through(n[0], n[1], n[2])),
        new Call("relieved", "K", (p, n) -> p.relieved(n[0])),
        new Call("enough", "PPK", (p, n) -> p.enough(n[0], n[1], n[2])),
        new Call("fewest", "K1", (p, n) -> p.fewest(n[0], n[1])),
        new Call("line", "Tb", (p, n) -> p.line(n[0], n[1])));

    private static final List<Start> STARTS = List.of(
        new Start("a new object", press -> { }, 0, 0, 0),
        new Start("an object with acts and a tape", RefusalsTest::used, 3, 2, 4),
        new Start("one that can't be pressed", RefusalsTest::stuck, 2, 1, 1),
        new Start("a full one", RefusalsTest::full, 8, 4, 40),
        new Start("parties without kinds", press -> Checks.tell(press, "party a;party b;"), 2, 0, 0),
        new Start("kinds without parties", press -> Checks.tell(press, "kind k;kind l;"), 0, 2, 0));

    public static void main(String[] args) {
        for (Start start : STARTS) {
            for (Call call : CALLS) {
                check(start, call);
            }
            evenBits(start);
        }
        CHECKS.end();
    }

    /** Bits are neither a number of a PARTY nor one within bounds, so they stand apart. */
    private static void evenBits(Start start) {
        int[] bits = {0, 1, 3, 1 << start.parties, 3 << start.parties, -1, Integer.MIN_VALUE, Integer.MAX_VALUE};
        for (int kind : new int[] {Integer.MIN_VALUE, -1, 0, start.kinds - 1, start.kinds, Integer.MAX_VALUE}) {
            for (int some : bits) {
                boolean none = kind < 0 || kind >= start.kinds || (some & -(1 << start.parties)) != 0;
                boolean few = Integer.bitCount(some) < 2;
                String call = start.name + ": even(" + some + ", " + kind + ")";
                if (none || few) {
                    Whole.unchanged(CHECKS, call, start.made, press -> press.even(some, kind), none ? NO_SUCH : BAD_NUMBER);
                } else {
                    SwapPress press = new SwapPress();
                    start.made.accept(press);
                    CHECKS.due(call + " is 0 or 1", press.even(some, kind) >> 1, 0);
                }
            }
        }
    }

    private static void used(SwapPress press) {
        Checks.tell(press, "party a;party b;party c;kind k;kind l;cap a c 4;"
            + "trade a b 7 k;trade b c 5 k;trade b a 2 l;keep 0;");
        Checks.tell(press, "party a;party a;");
        press.mode(1);
        press.trade(2, 0, 3, 0);
        press.cap(1, 0, 6);
        Checks.feedAll(press, Checks.bytes("party zz;mode 3;"));
    }

    private static void stuck(SwapPress press) {
        Checks.tell(press, "party a;party b;kind k;trade a b 5 k;mode 2;cap a b 4;");
        Checks.feedAll(press, Checks.bytes("party"));
    }

    private static void full(SwapPress press) {
        StringBuilder text = new StringBuilder("kind w;kind x;kind y;kind z;" + Checks.parties(8));
        for (int i = 0; i < 40; i++) {
            text.append("trade ").append((char) ('a' + i % 8)).append(' ').append((char) ('a' + (i + 1 + i / 8) % 8))
                .append(' ').append(i + 1).append(' ').append((char) ('w' + i % 3)).append(';');
        }
        Checks.tell(press, text.toString());
        for (int i = 0; i < 10; i++) {
            press.keep(i);
        }
    }

    /** The least and the greatest number that may stand there, and the code for others. */
    private static long[] bounds(Start start, char arg) {
        switch (arg) {
            case 'P':
                return new long[] {0, start.parties - 1, NO_SUCH};
            case 'K':
                return new long[] {0, start.kinds - 1, NO_SUCH};
            case 'T':
                return new long[] {0, start.trades - 1, NO_SUCH};
            case 'a':
                return new long[] {1, 999999, BAD_NUMBER};
            case 'm':
                return new long[] {0, 3, BAD_NUMBER};
            case 'c':
                return new long[] {0, 99999999, BAD_NUMBER};
            case 'i':
                return new long[] {-1, Integer.MAX_VALUE, BAD_NUMBER};
            case 'b':
                return new long[] {0, Integer.MAX_VALUE, BAD_NUMBER};
            case 'r':
                return new long[] {0, 99, BAD_NUMBER};
            case 'h':
                return new long[] {0, 1, BAD_NUMBER};
            default:
                return new long[] {0, arg - '0', NO_SUCH};
        }
    }

    private static void check(Start start, Call call) {
        List<int[]> refused = new ArrayList<>();
        for (int[] numbers : rows(start, call)) {
            int code = code(start, call, numbers);
            if (code == 0) {
                SwapPress press = new SwapPress();
                start.made.accept(press);
                int answer = call.asked.of(press, numbers);
                CHECKS.due(named(start, call, numbers) + " is refused",
                    answer == NO_SUCH || answer == BAD_NUMBER ? answer : 0, 0);
            } else {
                refused.add(numbers);
            }
        }
        for (int at = 0; at < refused.size(); at += 60) {
            List<int[]> some = refused.subList(at, Math.min(refused.size(), at + 60));
            Whole.same(CHECKS, "refused " + call.name + " of " + start.name, press -> {
                start.made.accept(press);
                for (int[] numbers : some) {
                    CHECKS.due(named(start, call, numbers), call.asked.of(press, numbers), code(start, call, numbers));
                }
            }, start.made);
        }
    }

    private static String named(Start start, Call call, int[] numbers) {
        return start.name + ": " + call.name + java.util.Arrays.toString(numbers);
    }

    /** 0: not refused by its numbers. */
    private static int code(Start start, Call call, int[] numbers) {
        int code = call.couple() && numbers[0] == numbers[1] ? NO_SUCH : 0;
        for (int i = 0; i < numbers.length; i++) {
            long[] bounds = bounds(start, call.args.charAt(i));
            boolean out = numbers[i] < bounds[0] || numbers[i] > bounds[1];
            if (out && (code == 0 || bounds[2] == NO_SUCH)) {
                code = (int) bounds[2];
            }
        }
        return code;
    }

    private static List<int[]> rows(Start start, Call call) {
        List<int[]> rows = new ArrayList<>();
        rows.add(new int[call.args.length()]);
        for (int i = 0; i < call.args.length(); i++) {
            List<int[]> longer = new ArrayList<>();
            long[] bounds = bounds(start, call.args.charAt(i));
            long[] tried = {Integer.MIN_VALUE, bounds[0] - 1, bounds[0], bounds[1], bounds[1] + 1, Integer.MAX_VALUE};
            for (int[] row : rows) {
                for (int t = 0; t < tried.length; t++) {
                    if (tried[t] <= Integer.MAX_VALUE && (t == 0 || tried[t] > tried[t - 1])) {
                        int[] more = row.clone();
                        more[i] = (int) tried[t];
                        longer.add(more);
                    }
                }
            }
            rows = longer;
        }
        return rows;
    }
}

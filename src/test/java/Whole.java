import java.util.function.Consumer;
import java.util.function.ToIntFunction;

/** All that an object shows, to see whether a call left it as it was. */
final class Whole {
    /** Behind 512 calls an object's answers are free; those that make it take up to these. */
    private static final int CALLS = 512 - 130;
    private static final int FEW = 8;

    private final SwapPress press = new SwapPress();
    private int calls;

    private Whole() {
    }

    /** Two objects made alike: one has the call, the other hasn't, and both must show the same on and on. */
    static void unchanged(Checks checks, String call, Consumer<SwapPress> made,
                          ToIntFunction<SwapPress> refused, int code) {
        same(checks, call, press -> {
            made.accept(press);
            checks.due(call, refused.applyAsInt(press), code);
        }, made);
    }

    /** Two rows of calls that are to end alike. */
    static void same(Checks checks, String row, Consumer<SwapPress> with, Consumer<SwapPress> without) {
        Whole one = new Whole();
        Whole other = new Whole();
        with.accept(one.press);
        without.accept(other.press);
        checks.due(row + ", then all", one.all(), other.all());
        int left = 0;
        for (int i = 0; i <= 11 && left >= 0; i++) {
            left = one.seen(one.press.undo());
            checks.due(row + ", then undo", left, other.seen(other.press.undo()));
            checks.due(row + ", undone", one.briefly(), other.briefly());
        }
        checks.due(row + ", all undone", one.trades(), other.trades());
        checks.due(row + ", then caps", one.caps(), other.caps());
        int bytes = other.seen(other.press.count(6));
        checks.due(row + ", then tell", one.seen(one.press.tell(bytes)), other.seen(other.press.tell(bytes)));
        checks.due(row + ", told", one.faults() + one.trades(), other.faults() + other.trades());
        checks.due(row + ", too many calls", one.calls > CALLS || other.calls > CALLS ? 1 : 0, 0);
    }

    private int seen(int answer) {
        calls++;
        return answer;
    }

    private String all() {
        return faults() + counts() + trades() + kinds() + couples();
    }

    private String faults() {
        return "faults " + seen(press.fault(0)) + ' ' + seen(press.fault(1)) + '\n';
    }

    private String counts() {
        StringBuilder text = new StringBuilder("counts");
        for (int what = 0; what < 7; what++) {
            text.append(' ').append(seen(press.count(what)));
        }
        return text.append('\n').toString();
    }

    private String trades() {
        StringBuilder text = new StringBuilder("trades");
        int size = seen(press.count(2));
        for (int trade = 0; trade < size; trade++) {
            text.append("\n ").append(seen(press.tradeOf(trade, 2))).append(' ').append(seen(press.tradeOf(trade, 4)));
            if (size <= FEW) {
                text.append(' ').append(seen(press.tradeOf(trade, 0))).append(' ').append(seen(press.tradeOf(trade, 1)))
                    .append(' ').append(seen(press.tradeOf(trade, 3))).append(' ').append((char) seen(press.line(trade, 0)));
            }
        }
        return text.append('\n').toString();
    }

    private String briefly() {
        int size = seen(press.count(2));
        StringBuilder text = new StringBuilder("mode ").append(seen(press.count(4))).append(" trades");
        for (int trade = 0; trade < size && size <= FEW; trade++) {
            text.append(' ').append(seen(press.tradeOf(trade, 2))).append(seen(press.tradeOf(trade, 4)) == 1 ? "*" : "");
        }
        return text.append(" of ").append(size).toString();
    }

    private String kinds() {
        StringBuilder text = new StringBuilder("kinds");
        int kinds = seen(press.count(1));
        for (int kind = 0; kind < kinds; kind++) {
            text.append(' ').append(seen(press.total(kind, 0))).append(' ').append(seen(press.total(kind, 2)))
                .append(' ').append(seen(press.least(kind))).append(' ').append(seen(press.cleared(kind, 0)))
                .append(' ').append(seen(press.fewest(kind, 0)));
        }
        return text.append('\n').toString();
    }

    private String couples() {
        StringBuilder text = new StringBuilder("couples");
        int parties = Math.min(4, seen(press.count(0)));
        for (int a = 0; a < parties; a++) {
            for (int b = 0; b < parties; b++) {
                if (a != b) {
                    text.append(' ').append(seen(press.flow(a, b, 0))).append(' ').append(seen(press.pressed(a, b, 0)));
                }
            }
        }
        return text.append('\n').toString();
    }

    private String caps() {
        StringBuilder text = new StringBuilder("caps ").append(seen(press.mode(2)));
        int parties = seen(press.count(0));
        for (int a = 0; a < parties; a++) {
            for (int b = 0; b < parties; b++) {
                if (a != b) {
                    text.append(' ').append(seen(press.bound(a, b, 0)));
                }
            }
        }
        return text.append('\n').toString();
    }
}

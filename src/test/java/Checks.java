import java.nio.charset.StandardCharsets;
import java.util.Arrays;

/** What the tests share: comparing answers, and telling texts. */
final class Checks {
    private final String name;
    private int made;
    private int wrong;

    Checks(String name) {
        this.name = name;
    }

    void due(String call, long got, long want) {
        made++;
        if (got != want) {
            wrong++;
            System.out.println(name + ": " + call + " answered " + got + ", due is " + want);
        }
    }

    void due(String call, String got, String want) {
        made++;
        if (!got.equals(want)) {
            wrong++;
            System.out.println(name + ": " + call + " answered " + got + ", due is " + want);
        }
    }

    void end() {
        System.out.println(name + ": " + made + " checks, " + wrong + " wrong");
        if (wrong != 0 || made == 0) {
            System.exit(1);
        }
    }

    static byte[] bytes(String text) {
        return text.getBytes(StandardCharsets.ISO_8859_1);
    }

    static int feedAll(SwapPress press, byte[] text) {
        int fed = press.count(6);
        for (int at = 0; at < text.length; at += 20) {
            byte[] part = Arrays.copyOfRange(text, at, at + 20);
            fed = press.feed(four(part, 0), four(part, 4), four(part, 8), four(part, 12), four(part, 16));
        }
        return fed;
    }

    private static int four(byte[] part, int at) {
        return (part[at] & 255) << 24 | (part[at + 1] & 255) << 16
            | (part[at + 2] & 255) << 8 | part[at + 3] & 255;
    }

    static int tell(SwapPress press, String text) {
        feedAll(press, bytes(text));
        return press.tell(text.length());
    }

    static SwapPress told(String text) {
        SwapPress press = new SwapPress();
        int answer = tell(press, text);
        if (answer < 0) {
            throw new IllegalStateException(text + " is refused: " + answer);
        }
        return press;
    }

    /** All of a trade's line, as the bytes answer. */
    static String line(SwapPress press, int trade) {
        StringBuilder line = new StringBuilder();
        for (int i = 0; i < 100; i++) {
            int sign = press.line(trade, i);
            if (sign < 0) {
                return line.toString();
            }
            line.append((char) sign);
        }
        return line.toString();
    }

    static String lines(SwapPress press) {
        StringBuilder lines = new StringBuilder();
        for (int trade = 0; trade < press.count(2); trade++) {
            lines.append(line(press, trade)).append(';');
        }
        return lines.toString();
    }

    /** "party a;party b;" and so on. */
    static String parties(int number) {
        StringBuilder text = new StringBuilder();
        for (int i = 0; i < number; i++) {
            text.append("party ").append((char) ('a' + i)).append(';');
        }
        return text.toString();
    }
}

import java.util.ArrayList;
import java.util.List;
import java.util.Random;

/** Long made-up runs of all calls, the class against the model, and small ones against every number. */
public final class ModelTest {
    private static final Checks CHECKS = new Checks("ModelTest");
    private static final int RUNS = Integer.getInteger("runs", 150);
    private static final int TEXTS = Integer.getInteger("texts", 20000);
    private static final int CROWDS = Integer.getInteger("crowds", 60);
    private static final String[] NAMES = {"a", "b", "c", "dd", "e", "abcdefgh", "g", "h", "ab", "k", "l", "m", "oil", "p"};

    private final Random random;
    private final SwapPress press = new SwapPress();
    private final Model model = new Model();
    private final StringBuilder story = new StringBuilder();

    private ModelTest(long seed) {
        random = new Random(seed);
    }

    public static void main(String[] args) {
        for (int seed = 1; seed <= RUNS; seed++) {
            new ModelTest(seed).run();
        }
        new ModelTest(0).texts();
        for (int seed = 1; seed <= 400; seed++) {
            new ModelTest(-seed).smallOnes();
        }
        for (int seed = 1; seed <= CROWDS; seed++) {
            new ModelTest(1000000 + seed).crowd();
        }
        CHECKS.end();
    }

    private void same(String call, int got, int want) {
        story.append(call).append(" = ").append(want).append('\n');
        CHECKS.due(call, got, want);
        if (got != want) {
            System.out.println("behind " + story);
            System.exit(1);
        }
    }

    private void run() {
        int parties = 1 + random.nextInt(8);
        if (parties < 4) {
            parties += random.nextInt(4);
        }
        int kinds = 1 + random.nextInt(4);
        int calls = tell(goodText(parties, kinds));
        for (; calls < 512; calls++) {
            if (random.nextInt(60) == 0) {
                parties = 2 + random.nextInt(7);
                kinds = 1 + random.nextInt(4);
                calls += tell(random.nextInt(4) == 0 ? spoilt(goodText(parties, kinds)) : goodText(parties, kinds));
            } else if (random.nextInt(3) == 0) {
                act();
            } else {
                ask();
            }
        }
    }

    private int tell(String text) {
        int calls = 1;
        byte[] bytes = Checks.bytes(text);
        for (int at = 0; at < bytes.length; at += 20) {
            int[] five = new int[5];
            for (int i = 0; i < 20 && at + i < bytes.length; i++) {
                five[i / 4] |= (bytes[at + i] & 255) << (24 - i % 4 * 8);
            }
            same("feed", press.feed(five[0], five[1], five[2], five[3], five[4]), model.feed(five));
            calls++;
        }
        same("tell " + text, press.tell(bytes.length), model.tell(bytes.length));
        same("fault(0)", press.fault(0), model.fault(0));
        same("fault(1)", press.fault(1), model.fault(1));
        return calls;
    }

    private long amount() {
        switch (random.nextInt(4)) {
            case 0:
                return 1 + random.nextInt(5);
            case 1:
                return 10 * (1 + random.nextInt(9));
            case 2:
                return 1 + random.nextInt(999999);
            default:
                return 1 + random.nextInt(99);
        }
    }

    private String goodText(int parties, int kinds) {
        StringBuilder text = new StringBuilder();
        for (int i = 0; i < parties; i++) {
            text.append("party ").append(NAMES[i]).append(';');
        }
        for (int i = 0; i < kinds; i++) {
            text.append("kind ").append(NAMES[9 + i]).append(';');
        }
        int trades = parties < 2 ? 0 : random.nextInt(3) == 0 ? random.nextInt(40) : random.nextInt(16);
        boolean modeTold = false;
        List<Integer> kept = new ArrayList<>();
        for (int i = 0; i < trades && text.length() < 850; i++) {
            int from = random.nextInt(parties);
            int to = (from + 1 + random.nextInt(parties - 1)) % parties;
            text.append("trade ").append(NAMES[from]).append(' ').append(NAMES[to]).append(' ').append(amount())
                .append(' ').append(NAMES[9 + (random.nextInt(3) > 0 ? 0 : random.nextInt(kinds))]).append(';');
            if (random.nextInt(10) == 0 && !kept.contains(i)) {
                text.append("keep ").append(i).append(';');
                kept.add(i);
            }
            if (random.nextInt(10) == 0) {
                text.append("cap ").append(NAMES[from]).append(' ').append(NAMES[to]).append(' ').append(amount()).append(';');
            }
            if (random.nextInt(20) == 0 && !modeTold) {
                text.append("mode ").append(random.nextInt(4)).append(';');
                modeTold = true;
            }
        }
        return text.length() > 900 ? text.substring(0, 900) : text.toString();
    }

    private String spoilt(String text) {
        StringBuilder spoilt = new StringBuilder(text);
        int times = 1 + random.nextInt(2);
        String[] bits = {" ", ";", "party ", "kind ", "trade ", "keep ", "cap ", "mode ", "0", "9", "123456789", "a", "k",
            "ab", "abcdefghi", "mode 1;", "keep 0;", "party q;", "kind z;", "trade a b 5 k;", "\0", "\n", "A", "-",
            "\u00e9", "\u00ff", "{", "`", "/", ":", "trade a a 5 k;", "cap a b 0;", "  "};
        for (int i = 0; i < times; i++) {
            int at = random.nextInt(spoilt.length() + 1);
            switch (random.nextInt(4)) {
                case 0:
                    if (at < spoilt.length()) {
                        spoilt.deleteCharAt(at);
                    }
                    break;
                case 1:
                    spoilt.setLength(at);
                    break;
                case 2:
                    int line = spoilt.indexOf(";", at);
                    spoilt.insert(line < 0 ? at : line + 1, bits[random.nextInt(bits.length)]);
                    break;
                default:
                    spoilt.insert(at, bits[random.nextInt(bits.length)]);
                    break;
            }
        }
        return spoilt.length() > 900 ? spoilt.substring(0, 900) : spoilt.toString();
    }

    private void texts() {
        for (int i = 0; i < TEXTS; i++) {
            story.setLength(0);
            String text = goodText(random.nextInt(9), 1 + random.nextInt(4));
            tell(random.nextInt(8) == 0 ? text : spoilt(text));
            for (int what = 0; what < 7; what++) {
                same("count(" + what + ")", press.count(what), model.count(what));
            }
            int trade = random.nextInt(1 + Math.max(0, press.count(2)));
            int at = random.nextInt(30);
            same("line(" + trade + ", " + at + ")", press.line(trade, at), model.line(trade, at));
        }
    }

    /** Mostly one that there is. */
    private int party() {
        return random.nextInt(25) == 0 ? random.nextInt(12) - 2 : random.nextInt(Math.max(1, press.count(0)));
    }

    private int kind() {
        if (random.nextInt(30) == 0) {
            return random.nextInt(7) - 2;
        }
        return random.nextBoolean() ? 0 : random.nextInt(Math.max(1, press.count(1)));
    }

    private int anyTrade() {
        return random.nextInt(25) == 0 ? random.nextInt(44) - 2 : random.nextInt(Math.max(1, press.count(2)));
    }

    private int wild() {
        int[] wild = {-3, -2, -1, 0, 1, 2, 3, 4, 5, 9, 99, 100, Integer.MAX_VALUE, Integer.MIN_VALUE};
        return wild[random.nextInt(wild.length)];
    }

    private int what(int most) {
        return random.nextInt(12) == 0 ? wild() : random.nextInt(most + 1);
    }

    private void act() {
        int a = party();
        int b = party();
        int k = kind();
        int t = anyTrade();
        switch (random.nextInt(14)) {
            case 0:
            case 1:
            case 2:
            case 3: {
                int amount = random.nextInt(12) == 0 ? new int[] {0, -1, 1000000, 999999}[random.nextInt(4)] : (int) amount();
                same("trade(" + a + ", " + b + ", " + amount + ", " + k + ")", press.trade(a, b, amount, k), model.trade(a, b, amount, k));
                break;
            }
            case 4:
                same("drop(" + t + ")", press.drop(t), model.drop(t));
                break;
            case 5:
                same("keep(" + t + ")", press.keep(t), model.keep(t));
                break;
            case 6:
            case 7: {
                int mode = what(3);
                same("mode(" + mode + ")", press.mode(mode), model.mode(mode));
                break;
            }
            case 8:
            case 9: {
                int cap = random.nextInt(8) == 0 ? new int[] {-1, 0, 99999999, 100000000}[random.nextInt(4)] : (int) amount();
                same("cap(" + a + ", " + b + ", " + cap + ")", press.cap(a, b, cap), model.cap(a, b, cap));
                break;
            }
            case 10:
                same("takeRing(" + k + ")", press.takeRing(k), model.takeRing(k));
                break;
            case 11:
                same("press(" + k + ")", press.press(k), model.press(k));
                break;
            default:
                same("undo()", press.undo(), model.undo());
                break;
        }
        lookAround();
    }

    private void lookAround() {
        for (int w = 0; w < 7; w++) {
            same("count(" + w + ")", press.count(w), model.count(w));
        }
        for (int t = 0; t < press.count(2); t++) {
            for (int w = 0; w < 5; w++) {
                same("tradeOf(" + t + ", " + w + ")", press.tradeOf(t, w), model.tradeOf(t, w));
            }
        }
    }

    private void ask() {
        if (random.nextInt(3) == 0) {
            askOfTrades();
        } else {
            askOfPressed();
        }
    }

    private void askOfTrades() {
        int a = party();
        int b = party();
        int k = kind();
        int t = anyTrade();
        int w = what(3);
        int i = random.nextInt(10) == 0 ? wild() : random.nextInt(9) - 1;
        String ki = "(" + k + ", " + i + ")";
        String kw = "(" + k + ", " + w + ")";
        boolean free = random.nextBoolean();
        switch (random.nextInt(15)) {
            case 0:
                same("flow(" + a + ", " + b + ", " + k + ")", press.flow(a, b, k), model.flow(a, b, k));
                break;
            case 1:
                same("net(" + a + ", " + k + ", " + free + ")", press.net(a, k, free), model.net(a, k, free));
                break;
            case 2:
                same("side(" + a + ", " + k + ", " + w + ")", press.side(a, k, w), model.side(a, k, w));
                break;
            case 3:
                same("total" + kw, press.total(k, w), model.total(k, w));
                break;
            case 4:
                same("bound(" + a + ", " + b + ", " + k + ")", press.bound(a, b, k), model.bound(a, b, k));
                break;
            case 5:
                same("ring" + ki, press.ring(k, i), model.ring(k, i));
                break;
            case 6:
                same("load(" + k + ")", press.load(k), model.load(k));
                break;
            case 7:
                same("cleared" + kw, press.cleared(k, w), model.cleared(k, w));
                break;
            case 8:
                same("rounds" + ki, press.rounds(k, i), model.rounds(k, i));
                break;
            case 9:
                same("chain" + ki, press.chain(k, i), model.chain(k, i));
                break;
            case 10:
                same("fewest" + kw, press.fewest(k, w), model.fewest(k, w));
                break;
            case 11: {
                int bits = random.nextInt(8) == 0 ? wild() : random.nextInt(1 << press.count(0));
                same("even(" + bits + ", " + k + ")", press.even(bits, k), model.even(bits, k));
                break;
            }
            case 12: {
                int at = random.nextInt(12) == 0 ? wild() : random.nextInt(32);
                same("line(" + t + ", " + at + ")", press.line(t, at), model.line(t, at));
                break;
            }
            case 13:
                same("tradeOf(" + t + ", " + w + ")", press.tradeOf(t, w), model.tradeOf(t, w));
                break;
            default:
                same("count(" + w + ")", press.count(w), model.count(w));
                break;
        }
    }

    private void askOfPressed() {
        int a = party();
        int b = party();
        int k = kind();
        int w = what(1);
        String abk = "(" + a + ", " + b + ", " + k + ")";
        switch (random.nextInt(13)) {
            case 0:
                same("least(" + k + ")", press.least(k), model.least(k));
                break;
            case 1:
            case 2:
                same("pressed" + abk, press.pressed(a, b, k), model.pressed(a, b, k));
                break;
            case 3:
                same("couples(" + k + ")", press.couples(k), model.couples(k));
                break;
            case 4:
            case 5:
                same("span" + abk + w, press.span(a, b, k, w), model.span(a, b, k, w));
                break;
            case 6:
                same("gain" + abk, press.gain(a, b, k), model.gain(a, b, k));
                break;
            case 7:
                same("without(" + a + ", " + k + ")", press.without(a, k), model.without(a, k));
                break;
            case 8:
                same("relief(" + a + ", " + k + ")", press.relief(a, k), model.relief(a, k));
                break;
            case 9:
                same("through(" + a + ", " + k + ", " + w + ")", press.through(a, k, w), model.through(a, k, w));
                break;
            case 10:
                same("relieved(" + k + ")", press.relieved(k), model.relieved(k));
                break;
            case 11:
                same("all()", press.all(), model.all());
                break;
            default:
                same("enough" + abk, press.enough(a, b, k), model.enough(a, b, k));
                break;
        }
    }

    /** Three or four parties and amounts so small that every number of every couple can be tried. */
    private void smallOnes() {
        int n = 3 + random.nextInt(2);
        long most = n == 3 ? 3 : 1;
        Checks.tell(press, Checks.parties(n) + "kind k;mode " + random.nextInt(4) + ";");
        int trades = 1 + random.nextInt(n == 3 ? 8 : 10);
        for (int i = 0; i < trades; i++) {
            press.trade(random.nextInt(n), random.nextInt(n), 1 + random.nextInt((int) most), 0);
        }
        long[] nets = new long[n];
        long[][] bounds = new long[n][n];
        long[] through = press.count(4) == 3 ? new long[n] : null;
        for (int a = 0; a < n; a++) {
            nets[a] = press.net(a, 0, true) - 100000000;
            if (through != null) {
                through[a] = press.through(a, 0, 0);
            }
            for (int b = 0; b < n; b++) {
                if (a != b) {
                    press.cap(a, b, random.nextInt(n == 3 ? 6 : 3));
                    bounds[a][b] = press.bound(a, b, 0);
                    if (bounds[a][b] > (n == 3 ? 9 : 3)) {
                        return;
                    }
                }
            }
        }
        compareWithAll(n, new PlainFlow(nets, bounds, through).tryAll());
    }

    private void compareWithAll(int n, long[][] tried) {
        long sum = 0;
        for (int a = 0; a < n; a++) {
            for (int b = 0; b < n; b++) {
                if (a != b) {
                    int cell = a * n + b;
                    sum += tried == null ? 0 : tried[0][cell];
                    same("pressed " + a + b, press.pressed(a, b, 0), tried == null ? -1 : (int) tried[0][cell]);
                    same("low " + a + b, press.span(a, b, 0, 0), tried == null ? -1 : (int) tried[1][cell]);
                    same("high " + a + b, press.span(a, b, 0, 1), tried == null ? -1 : (int) tried[2][cell]);
                }
            }
        }
        same("least", press.least(0), tried == null ? -1 : (int) sum);
    }

    /** Many parties, and caps so low that least ways go by many; each couple is asked of. At most 486 calls. */
    private void crowd() {
        int n = 5 + random.nextInt(4);
        int scale = random.nextInt(3) == 0 ? 100000 : 1;
        int caps = 3 + random.nextInt(14);
        tell(Checks.parties(n) + "kind k;mode " + (random.nextInt(3) > 0 ? 2 : random.nextInt(4)) + ";");
        int trades = 5 + random.nextInt(36);
        for (int i = 0; i < trades; i++) {
            int from = random.nextInt(n);
            int to = (from + 1 + random.nextInt(n - 1)) % n;
            int amount = scale * (1 + random.nextInt(4));
            same("trade(" + from + ", " + to + ", " + amount + ", 0)", press.trade(from, to, amount, 0),
                model.trade(from, to, amount, 0));
        }
        for (int a = 0; a < n; a++) {
            for (int b = 0; b < n; b++) {
                if (a != b) {
                    int cap = scale * Math.max(0, random.nextInt(caps + 4) - 3);
                    same("cap(" + a + ", " + b + ", " + cap + ")", press.cap(a, b, cap), model.cap(a, b, cap));
                }
            }
        }
        for (int a = 0; a < n; a++) {
            same("without(" + a + ", 0)", press.without(a, 0), model.without(a, 0));
            same("relief(" + a + ", 0)", press.relief(a, 0), model.relief(a, 0));
            for (int b = 0; b < n; b++) {
                if (a != b) {
                    askOfCouple(a, b);
                }
            }
        }
        same("least(0)", press.least(0), model.least(0));
        same("press(0)", press.press(0), model.press(0));
        int left = press.count(2);
        for (int t = 0; t < left; t++) {
            same("tradeOf(" + t + ", 2)", press.tradeOf(t, 2), model.tradeOf(t, 2));
        }
    }

    private void askOfCouple(int a, int b) {
        String ab = "(" + a + ", " + b + ", 0)";
        same("pressed" + ab, press.pressed(a, b, 0), model.pressed(a, b, 0));
        same("span low" + ab, press.span(a, b, 0, 0), model.span(a, b, 0, 0));
        same("span high" + ab, press.span(a, b, 0, 1), model.span(a, b, 0, 1));
        same("gain" + ab, press.gain(a, b, 0), model.gain(a, b, 0));
        same("enough" + ab, press.enough(a, b, 0), model.enough(a, b, 0));
    }
}

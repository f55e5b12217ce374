import java.util.ArrayDeque;
import java.util.ArrayList;
import java.util.Arrays;
import java.util.Deque;
import java.util.HashSet;
import java.util.List;
import java.util.Set;
import java.util.regex.Matcher;
import java.util.regex.Pattern;

/** The document's words, plain and slow, to hold the class against. */
final class Model {
    private static final Pattern TOKEN = Pattern.compile("[a-z]+|[0-9]+|[^ ]", Pattern.DOTALL);
    private static final List<String> RESERVED = List.of("party", "kind", "trade", "keep", "cap", "mode");
    private static final long MORE = 100000000L;

    record Trade(int from, int to, long amount, int kind, boolean kept) { }

    record State(List<Trade> trades, long[][] caps, int mode) { }

    private final StringBuilder tape = new StringBuilder();
    private int fault;
    private int place = -1;
    private List<String> parties = new ArrayList<>();
    private List<String> kinds = new ArrayList<>();
    private State state = new State(new ArrayList<>(), freeCaps(), 0);
    private final Deque<State> past = new ArrayDeque<>();

    private static long[][] freeCaps() {
        long[][] caps = new long[8][8];
        for (long[] row : caps) {
            Arrays.fill(row, 99999999);
        }
        return caps;
    }

    int feed(int... five) {
        if (tape.length() + 20 > 900) {
            return -4;
        }
        for (int four : five) {
            for (int shift = 24; shift >= 0; shift -= 8) {
                tape.append((char) (four >>> shift & 255));
            }
        }
        return tape.length();
    }

    // ---- the text

    private record Token(String text, int at) { }

    private static final class Fault extends Exception {
        private static final long serialVersionUID = 1L;
        final int code;
        final int at;

        Fault(int code, int at) {
            this.code = code;
            this.at = at;
        }
    }

    int tell(int n) {
        if (n < 0 || n > tape.length()) {
            return -3;
        }
        String text = tape.substring(0, n);
        tape.setLength(0);
        List<String> newParties = new ArrayList<>();
        List<String> newKinds = new ArrayList<>();
        try {
            State read = parse(text, newParties, newKinds);
            parties = newParties;
            kinds = newKinds;
            state = read;
            past.clear();
            fault = 0;
            place = -1;
            return state.trades.size();
        } catch (Fault f) {
            fault = f.code;
            place = f.at;
            return -30 - f.code;
        }
    }

    private static State parse(String text, List<String> ps, List<String> ks) throws Fault {
        List<Token> tokens = new ArrayList<>();
        Matcher matcher = TOKEN.matcher(text);
        while (matcher.find()) {
            tokens.add(new Token(matcher.group(), matcher.start()));
        }
        Token end = new Token("", text.length());
        List<Trade> trades = new ArrayList<>();
        long[][] caps = freeCaps();
        int mode = -1;
        int i = 0;
        while (i < tokens.size()) {
            Token head = tokens.get(i);
            List<Token> rest = new ArrayList<>(tokens.subList(i + 1, Math.min(tokens.size(), i + 6)));
            while (rest.size() < 5) {
                rest.add(end);
            }
            int used;
            switch (head.text) {
                case "party":
                    checkRoom(ps.size(), 8, head);
                    ps.add(fresh(rest.get(0), ps, ks));
                    used = 1;
                    break;
                case "kind":
                    checkRoom(ks.size(), 4, head);
                    ks.add(fresh(rest.get(0), ps, ks));
                    used = 1;
                    break;
                case "trade": {
                    checkRoom(trades.size(), 40, head);
                    int from = known(rest.get(0), ps);
                    int to = known(rest.get(1), ps);
                    if (from == to) {
                        throw new Fault(5, rest.get(1).at);
                    }
                    long amount = number(rest.get(2), 1, 999999);
                    trades.add(new Trade(from, to, amount, known(rest.get(3), ks), false));
                    used = 4;
                    break;
                }
                case "keep": {
                    int which = (int) number(rest.get(0), 0, trades.size() - 1);
                    Trade t = trades.get(which);
                    if (t.kept) {
                        throw new Fault(5, rest.get(0).at);
                    }
                    trades.set(which, new Trade(t.from, t.to, t.amount, t.kind, true));
                    used = 1;
                    break;
                }
                case "cap": {
                    int from = known(rest.get(0), ps);
                    int to = known(rest.get(1), ps);
                    if (from == to) {
                        throw new Fault(5, rest.get(1).at);
                    }
                    caps[from][to] = number(rest.get(2), 0, 99999999);
                    used = 3;
                    break;
                }
                case "mode":
                    if (mode >= 0) {
                        throw new Fault(1, head.at);
                    }
                    mode = (int) number(rest.get(0), 0, 3);
                    used = 1;
                    break;
                default:
                    throw new Fault(1, head.at);
            }
            if (!rest.get(used).text.equals(";")) {
                throw new Fault(1, rest.get(used).at);
            }
            i += used + 2;
        }
        return new State(trades, caps, Math.max(mode, 0));
    }

    private static void checkRoom(int size, int most, Token word) throws Fault {
        if (size == most) {
            throw new Fault(4, word.at);
        }
    }

    private static void checkName(Token token) throws Fault {
        if (!token.text.matches("[a-z]{1,8}") || RESERVED.contains(token.text)) {
            throw new Fault(1, token.at);
        }
    }

    private static String fresh(Token token, List<String> ps, List<String> ks) throws Fault {
        checkName(token);
        if (ps.contains(token.text) || ks.contains(token.text)) {
            throw new Fault(3, token.at);
        }
        return token.text;
    }

    private static int known(Token token, List<String> names) throws Fault {
        checkName(token);
        if (!names.contains(token.text)) {
            throw new Fault(3, token.at);
        }
        return names.indexOf(token.text);
    }

    private static long number(Token token, long low, long high) throws Fault {
        if (!token.text.matches("[0-9]+")) {
            throw new Fault(1, token.at);
        }
        if (token.text.length() > 8 || Long.parseLong(token.text) < low || Long.parseLong(token.text) > high) {
            throw new Fault(2, token.at);
        }
        return Long.parseLong(token.text);
    }

    int fault(int what) {
        return what == 0 ? fault : what == 1 ? place : -1;
    }

    // ---- by hand

    private boolean isParty(int p) {
        return p >= 0 && p < parties.size();
    }

    private boolean isKind(int k) {
        return k >= 0 && k < kinds.size();
    }

    private boolean isTrade(int t) {
        return t >= 0 && t < state.trades.size();
    }

    private boolean isCouple(int a, int b) {
        return isParty(a) && isParty(b) && a != b;
    }

    private void act(List<Trade> trades, long[][] caps, int mode) {
        past.addLast(state);
        if (past.size() > 10) {
            past.removeFirst();
        }
        state = new State(trades, caps, mode);
    }

    private void act(List<Trade> trades) {
        act(trades, state.caps, state.mode);
    }

    int trade(int from, int to, int amount, int kind) {
        if (!isCouple(from, to) || !isKind(kind)) {
            return -2;
        }
        if (amount < 1 || amount > 999999) {
            return -3;
        }
        if (state.trades.size() == 40) {
            return -4;
        }
        List<Trade> trades = new ArrayList<>(state.trades);
        trades.add(new Trade(from, to, amount, kind, false));
        act(trades);
        return trades.size() - 1;
    }

    int drop(int trade) {
        if (!isTrade(trade)) {
            return -2;
        }
        List<Trade> trades = new ArrayList<>(state.trades);
        trades.remove(trade);
        act(trades);
        return trades.size();
    }

    int keep(int trade) {
        if (!isTrade(trade)) {
            return -2;
        }
        List<Trade> trades = new ArrayList<>(state.trades);
        Trade t = trades.get(trade);
        trades.set(trade, new Trade(t.from, t.to, t.amount, t.kind, !t.kept));
        act(trades);
        return t.kept ? 0 : 1;
    }

    int mode(int n) {
        if (n < 0 || n > 3) {
            return -3;
        }
        int old = state.mode;
        act(state.trades, state.caps, n);
        return old;
    }

    int cap(int a, int b, int n) {
        if (!isCouple(a, b)) {
            return -2;
        }
        if (n < 0 || n > 99999999) {
            return -3;
        }
        long[][] caps = new long[8][];
        for (int i = 0; i < 8; i++) {
            caps[i] = state.caps[i].clone();
        }
        int old = (int) caps[a][b];
        caps[a][b] = n;
        act(state.trades, caps, state.mode);
        return old;
    }

    int takeRing(int kind) {
        if (!isKind(kind)) {
            return -2;
        }
        long[][] f = flows(state.trades, kind);
        List<Integer> ring = shortestRing(f);
        if (ring == null) {
            return -5;
        }
        long load = loadOf(f, ring);
        List<Trade> trades = new ArrayList<>(state.trades);
        for (int i = 0; i < ring.size(); i++) {
            int from = ring.get(i);
            int to = ring.get((i + 1) % ring.size());
            long rest = load;
            for (int t = trades.size() - 1; t >= 0 && rest > 0; t--) {
                Trade old = trades.get(t);
                if (old.from == from && old.to == to && old.kind == kind && !old.kept) {
                    if (old.amount <= rest) {
                        rest -= old.amount;
                        trades.remove(t);
                    } else {
                        trades.set(t, new Trade(from, to, old.amount - rest, kind, false));
                        rest = 0;
                    }
                }
            }
        }
        act(trades);
        return (int) load;
    }

    int press(int kind) {
        if (!isKind(kind)) {
            return -2;
        }
        long[][] x = problem(kind).first();
        if (x == null) {
            return -5;
        }
        List<Trade> trades = new ArrayList<>();
        for (Trade t : state.trades) {
            if (t.kind != kind || t.kept) {
                trades.add(t);
            }
        }
        for (int a = 0; a < parties.size(); a++) {
            for (int b = 0; b < parties.size(); b++) {
                if (x[a][b] > 0) {
                    trades.add(new Trade(a, b, x[a][b], kind, false));
                }
            }
        }
        if (trades.size() > 40) {
            return -4;
        }
        act(trades);
        return trades.size();
    }

    int undo() {
        if (past.isEmpty()) {
            return -5;
        }
        state = past.removeLast();
        return past.size();
    }

    // ---- trades, nets

    int tradeOf(int trade, int what) {
        if (!isTrade(trade) || what < 0 || what > 4) {
            return -2;
        }
        Trade t = state.trades.get(trade);
        return (int) new long[] {t.from, t.to, t.amount, t.kind, t.kept ? 1 : 0}[what];
    }

    private long[][] flows(List<Trade> trades, int kind) {
        long[][] f = new long[parties.size()][parties.size()];
        for (Trade t : trades) {
            if (t.kind == kind && !t.kept) {
                f[t.from][t.to] += t.amount;
            }
        }
        return f;
    }

    private static long[] nets(long[][] f) {
        long[] nets = new long[f.length];
        for (int a = 0; a < f.length; a++) {
            for (int b = 0; b < f.length; b++) {
                nets[a] += f[a][b];
                nets[b] -= f[a][b];
            }
        }
        return nets;
    }

    int flow(int a, int b, int kind) {
        return !isCouple(a, b) || !isKind(kind) ? -2 : (int) flows(state.trades, kind)[a][b];
    }

    int net(int party, int kind, boolean free) {
        if (!isParty(party) || !isKind(kind)) {
            return -2;
        }
        long net = 0;
        for (Trade t : state.trades) {
            if (t.kind == kind && !(free && t.kept)) {
                net += t.from == party ? t.amount : 0;
                net -= t.to == party ? t.amount : 0;
            }
        }
        return (int) (net + MORE);
    }

    int side(int party, int kind, int what) {
        if (!isParty(party) || !isKind(kind) || what < 0 || what > 2) {
            return -2;
        }
        long out = 0;
        long in = 0;
        Set<Integer> others = new HashSet<>();
        for (Trade t : state.trades) {
            if (t.kind == kind && t.from == party) {
                out += t.amount;
                others.add(t.to);
            }
            if (t.kind == kind && t.to == party) {
                in += t.amount;
                others.add(t.from);
            }
        }
        return (int) new long[] {out, in, others.size()}[what];
    }

    private static long sum(long[][] f) {
        long sum = 0;
        for (long[] row : f) {
            for (long v : row) {
                sum += v;
            }
        }
        return sum;
    }

    private static int above(long[][] f) {
        int n = 0;
        for (long[] row : f) {
            for (long v : row) {
                n += v > 0 ? 1 : 0;
            }
        }
        return n;
    }

    int total(int kind, int what) {
        if (!isKind(kind) || what < 0 || what > 3) {
            return -2;
        }
        long[][] f = flows(state.trades, kind);
        long kept = 0;
        for (Trade t : state.trades) {
            kept += t.kind == kind && t.kept ? t.amount : 0;
        }
        long positive = 0;
        for (long net : nets(f)) {
            positive += Math.max(0, net);
        }
        return (int) new long[] {sum(f), above(f), kept, positive}[what];
    }

    private long[][] bounds(long[][] f) {
        int n = f.length;
        long[][] bounds = new long[n][n];
        for (int a = 0; a < n; a++) {
            for (int b = 0; b < n; b++) {
                if (a != b) {
                    bounds[a][b] = state.mode == 0 ? f[a][b] : state.mode == 2 ? state.caps[a][b] : f[a][b] + f[b][a];
                }
            }
        }
        return bounds;
    }

    int bound(int a, int b, int kind) {
        return !isCouple(a, b) || !isKind(kind) ? -2 : (int) bounds(flows(state.trades, kind))[a][b];
    }

    // ---- rings

    /** Every ring, told from its least party on, is looked at. */
    private static List<Integer> shortestRing(long[][] f) {
        for (int size = 2; size <= f.length; size++) {
            for (int home = 0; home < f.length; home++) {
                List<Integer> row = new ArrayList<>(List.of(home));
                if (extend(f, row, size)) {
                    return row;
                }
            }
        }
        return null;
    }

    private static boolean extend(long[][] f, List<Integer> row, int size) {
        int last = row.get(row.size() - 1);
        if (row.size() == size) {
            return f[last][row.get(0)] > 0;
        }
        for (int next = row.get(0) + 1; next < f.length; next++) {
            if (f[last][next] > 0 && !row.contains(next)) {
                row.add(next);
                if (extend(f, row, size)) {
                    return true;
                }
                row.remove(row.size() - 1);
            }
        }
        return false;
    }

    private static long loadOf(long[][] f, List<Integer> ring) {
        long load = Long.MAX_VALUE;
        for (int i = 0; i < ring.size(); i++) {
            load = Math.min(load, f[ring.get(i)][ring.get((i + 1) % ring.size())]);
        }
        return load;
    }

    private static long[] takeOut(long[][] f, int most) {
        long amount = 0;
        long number = 0;
        while (number < most) {
            List<Integer> ring = shortestRing(f);
            if (ring == null) {
                break;
            }
            long load = loadOf(f, ring);
            for (int i = 0; i < ring.size(); i++) {
                f[ring.get(i)][ring.get((i + 1) % ring.size())] -= load;
            }
            amount += load * ring.size();
            number++;
        }
        return new long[] {amount, number};
    }

    int ring(int kind, int i) {
        if (!isKind(kind)) {
            return -2;
        }
        if (i < -1) {
            return -3;
        }
        List<Integer> ring = shortestRing(flows(state.trades, kind));
        if (ring == null) {
            return -1;
        }
        return i == -1 ? ring.size() : i < ring.size() ? ring.get(i) : -1;
    }

    int load(int kind) {
        if (!isKind(kind)) {
            return -2;
        }
        long[][] f = flows(state.trades, kind);
        List<Integer> ring = shortestRing(f);
        return ring == null ? -1 : (int) loadOf(f, ring);
    }

    int cleared(int kind, int what) {
        if (!isKind(kind) || what < 0 || what > 2) {
            return -2;
        }
        long[][] f = flows(state.trades, kind);
        long[] taken = takeOut(f, Integer.MAX_VALUE);
        return what == 2 ? above(f) : (int) taken[what];
    }

    int rounds(int kind, int n) {
        if (!isKind(kind)) {
            return -2;
        }
        if (n < 0 || n > 99) {
            return -3;
        }
        long[][] f = flows(state.trades, kind);
        takeOut(f, n);
        return (int) sum(f);
    }

    int chain(int kind, int i) {
        if (!isKind(kind)) {
            return -2;
        }
        if (i < -1) {
            return -3;
        }
        long[][] f = flows(state.trades, kind);
        takeOut(f, Integer.MAX_VALUE);
        List<Integer> best = new ArrayList<>();
        for (int start = 0; start < f.length; start++) {
            longest(f, new ArrayList<>(List.of(start)), best);
        }
        if (best.size() < 2) {
            best.clear();
        }
        return i == -1 ? best.size() : i < best.size() ? best.get(i) : -1;
    }

    private static void longest(long[][] f, List<Integer> row, List<Integer> best) {
        if (row.size() > best.size()) {
            best.clear();
            best.addAll(row);
        }
        for (int next = 0; next < f.length; next++) {
            if (f[row.get(row.size() - 1)][next] > 0) {
                row.add(next);
                longest(f, row, best);
                row.remove(row.size() - 1);
            }
        }
    }

    // ---- pressed

    private PlainFlow problem(int kind) {
        return problem(state.trades, kind);
    }

    private PlainFlow problem(List<Trade> trades, int kind) {
        long[][] f = flows(trades, kind);
        long[] through = null;
        if (state.mode == 3) {
            through = new long[f.length];
            for (int p = 0; p < f.length; p++) {
                through[p] = throughOf(f, p);
            }
        }
        return new PlainFlow(nets(f), bounds(f), through);
    }

    private static long throughOf(long[][] f, int party) {
        long out = 0;
        long in = 0;
        for (int other = 0; other < f.length; other++) {
            out += f[party][other];
            in += f[other][party];
        }
        return Math.min(out, in);
    }

    private static long touching(long[][] f, int party) {
        long sum = 0;
        for (int other = 0; other < f.length; other++) {
            sum += f[party][other] + f[other][party];
        }
        return sum;
    }

    int least(int kind) {
        return !isKind(kind) ? -2 : (int) problem(kind).least();
    }

    int pressed(int a, int b, int kind) {
        if (!isCouple(a, b) || !isKind(kind)) {
            return -2;
        }
        long[][] x = problem(kind).first();
        return x == null ? -1 : (int) x[a][b];
    }

    int couples(int kind) {
        if (!isKind(kind)) {
            return -2;
        }
        long[][] x = problem(kind).first();
        return x == null ? -1 : above(x);
    }

    int span(int a, int b, int kind, int high) {
        if (!isCouple(a, b) || !isKind(kind)) {
            return -2;
        }
        if (high != 0 && high != 1) {
            return -3;
        }
        return (int) problem(kind).extreme(a, b, high == 1);
    }

    int gain(int a, int b, int kind) {
        if (!isCouple(a, b) || !isKind(kind)) {
            return -2;
        }
        long least = problem(kind).least();
        if (least < 0) {
            return -1;
        }
        PlainFlow wider = problem(kind);
        wider.bounds[a][b]++;
        return (int) (least - wider.least());
    }

    int without(int party, int kind) {
        if (!isParty(party) || !isKind(kind)) {
            return -2;
        }
        long own = 0;
        List<Trade> trades = new ArrayList<>();
        for (Trade t : state.trades) {
            boolean its = t.kind == kind && (t.from == party || t.to == party);
            own += its && !t.kept ? t.amount : 0;
            trades.add(its ? new Trade(t.from, t.to, t.amount, t.kind, true) : t);
        }
        long least = problem(trades, kind).least();
        return least < 0 ? -1 : (int) (least + own);
    }

    int relief(int party, int kind) {
        if (!isParty(party) || !isKind(kind)) {
            return -2;
        }
        long[][] x = problem(kind).first();
        return x == null ? -1 : (int) (touching(flows(state.trades, kind), party) - touching(x, party) + MORE);
    }

    int through(int party, int kind, int what) {
        if (!isParty(party) || !isKind(kind) || what < 0 || what > 1) {
            return -2;
        }
        if (what == 0) {
            return (int) throughOf(flows(state.trades, kind), party);
        }
        long[][] x = problem(kind).first();
        return x == null ? -1 : (int) throughOf(x, party);
    }

    int relieved(int kind) {
        if (!isKind(kind)) {
            return -2;
        }
        int best = -1;
        for (int party = 0; party < parties.size(); party++) {
            int own = relief(party, kind);
            if (own == -1) {
                return -1;
            }
            if (best == -1 || own > relief(best, kind)) {
                best = party;
            }
        }
        return best;
    }

    int all() {
        long sum = 0;
        for (int kind = 0; kind < kinds.size(); kind++) {
            long least = problem(kind).least();
            if (least < 0) {
                return -1;
            }
            sum += least;
        }
        return (int) sum;
    }

    /** The least bound by halving, as the document says it. */
    int enough(int a, int b, int kind) {
        if (!isCouple(a, b) || !isKind(kind)) {
            return -2;
        }
        PlainFlow problem = problem(kind);
        problem.bounds[a][b] = 99999999;
        long least = problem.least();
        if (least < 0) {
            return -1;
        }
        long low = 0;
        long high = 99999999;
        while (low < high) {
            problem.bounds[a][b] = (low + high) / 2;
            if (problem.least() == least) {
                high = (low + high) / 2;
            } else {
                low = (low + high) / 2 + 1;
            }
        }
        return (int) low;
    }

    // ---- groups

    int fewest(int kind, int what) {
        if (!isKind(kind) || what < 0 || what > 1) {
            return -2;
        }
        List<Long> nets = new ArrayList<>();
        for (long net : nets(flows(state.trades, kind))) {
            if (net != 0) {
                nets.add(net);
            }
        }
        int groups = mostGroups(nets, 0, new long[8], 0);
        return what == 0 ? nets.size() - groups : groups;
    }

    /** Every way to put them into groups is looked at. */
    private static int mostGroups(List<Long> nets, int i, long[] sums, int groups) {
        if (i == nets.size()) {
            for (int g = 0; g < groups; g++) {
                if (sums[g] != 0) {
                    return -1;
                }
            }
            return groups;
        }
        int best = -1;
        for (int g = 0; g <= groups && g < 8; g++) {
            sums[g] += nets.get(i);
            best = Math.max(best, mostGroups(nets, i + 1, sums, Math.max(groups, g + 1)));
            sums[g] -= nets.get(i);
        }
        return best;
    }

    int even(int bits, int kind) {
        if (!isKind(kind)) {
            return -2;
        }
        long sum = 0;
        int number = 0;
        for (int bit = 0; bit < 32; bit++) {
            if ((bits & 1 << bit) != 0) {
                if (!isParty(bit)) {
                    return -2;
                }
                sum += nets(flows(state.trades, kind))[bit];
                number++;
            }
        }
        return number < 2 ? -3 : sum == 0 ? 1 : 0;
    }

    // ---- pages

    int line(int trade, int i) {
        if (!isTrade(trade)) {
            return -2;
        }
        if (i < 0) {
            return -3;
        }
        Trade t = state.trades.get(trade);
        String line = parties.get(t.from) + ">" + parties.get(t.to) + " " + t.amount + " " + kinds.get(t.kind)
            + (t.kept ? " *" : "");
        return i < line.length() ? line.charAt(i) : -1;
    }

    int count(int what) {
        switch (what) {
            case 0:
                return parties.size();
            case 1:
                return kinds.size();
            case 2:
                return state.trades.size();
            case 3:
                return (int) state.trades.stream().filter(Trade::kept).count();
            case 4:
                return state.mode;
            case 5:
                return past.size();
            case 6:
                return tape.length();
            default:
                return -1;
        }
    }
}

import java.util.Arrays;

/**
 * A swap presser: trades between parties, of kinds that are kept apart, and the least that has to
 * change hands so that everybody comes out with the same nets.
 */
public final class SwapPress {
    public static final int NONE = -1;

    private static final int NO_SUCH = -2;
    private static final int BAD_NUMBER = -3;
    private static final int TOO_MANY = -4;
    private static final int CANNOT_BE = -5;
    private static final int FAULTY = -30;

    private static final int MOST_PARTIES = 8;
    private static final int MOST_KINDS = 4;
    private static final int MOST_TRADES = 40;
    private static final int MOST_BYTES = 900;
    private static final int MOST_ACTS = 10;
    private static final int MOST_ROUNDS = 99;
    private static final int MOST_AMOUNT = 999999;
    private static final int MOST_CAP = 99999999;
    private static final int LAST_MODE = 3;
    private static final int NAME_LETTERS = 8;
    private static final int NUMBER_DIGITS = 8;
    private static final int FED_BYTES = 20;
    private static final int CELLS = MOST_PARTIES * MOST_PARTIES;
    private static final long TOLD_MORE = 100000000L;

    private final Tape tape = new Tape();
    private final Reader reader = new Reader(tape);
    private final Past past = new Past();
    private final Flows flows = new Flows();
    private final Rings rings = new Rings();
    private final Row row = new Row();
    private final Solver solver = new Solver();
    private final Solver trial = new Solver();
    private final Groups groups = new Groups();
    private final Page page = new Page();
    private Names names = new Names();
    private Book book = new Book();
    private int solvedKind = NONE;

    public SwapPress() {
    }

    public int feed(int a, int b, int c, int d, int e) {
        if (tape.length + FED_BYTES > MOST_BYTES) {
            return TOO_MANY;
        }
        tape.append(a);
        tape.append(b);
        tape.append(c);
        tape.append(d);
        tape.append(e);
        return tape.length;
    }

    public int tell(int n) {
        if (n < 0 || n > tape.length) {
            return BAD_NUMBER;
        }
        tape.length = 0;
        reader.read(n);
        if (reader.fault != 0) {
            return FAULTY - reader.fault;
        }
        takeOver();
        past.size = 0;
        solvedKind = NONE;
        return book.size;
    }

    public int fault(int what) {
        switch (what) {
            case 0:
                return reader.fault;
            case 1:
                return reader.place;
            default:
                return NONE;
        }
    }

    // ---- by hand

    public int trade(int from, int to, int amount, int kind) {
        if (noCouple(from, to) || noKind(kind)) {
            return NO_SUCH;
        }
        if (amount < 1 || amount > MOST_AMOUNT) {
            return BAD_NUMBER;
        }
        if (book.size >= MOST_TRADES) {
            return TOO_MANY;
        }
        rememberAct();
        book.append(from, to, amount, kind);
        return book.size - 1;
    }

    public int drop(int trade) {
        if (noTrade(trade)) {
            return NO_SUCH;
        }
        rememberAct();
        book.remove(trade);
        return book.size;
    }

    public int keep(int trade) {
        if (noTrade(trade)) {
            return NO_SUCH;
        }
        rememberAct();
        book.kept[trade] = !book.kept[trade];
        return book.kept[trade] ? 1 : 0;
    }

    public int mode(int n) {
        if (n < 0 || n > LAST_MODE) {
            return BAD_NUMBER;
        }
        rememberAct();
        int old = book.boundMode;
        book.boundMode = n;
        return old;
    }

    public int cap(int a, int b, int n) {
        if (noCouple(a, b)) {
            return NO_SUCH;
        }
        if (n < 0 || n > MOST_CAP) {
            return BAD_NUMBER;
        }
        rememberAct();
        int old = book.caps[cell(a, b)];
        book.caps[cell(a, b)] = n;
        return old;
    }

    public int takeRing(int kind) {
        if (noKind(kind)) {
            return NO_SUCH;
        }
        findRing(kind);
        if (rings.size == 0) {
            return CANNOT_BE;
        }
        rememberAct();
        long amount = rings.leastFlow(flows);
        for (int i = 0; i < rings.size; i++) {
            book.lessen(rings.party[i], rings.party[rings.after(i)], kind, amount);
        }
        return (int) amount;
    }

    public int press(int kind) {
        if (noKind(kind)) {
            return NO_SUCH;
        }
        solveKind(kind);
        if (!solver.possible) {
            return CANNOT_BE;
        }
        if (book.size - book.openOf(kind) + solver.firstAboveZero() > MOST_TRADES) {
            return TOO_MANY;
        }
        rememberAct();
        book.removeOpen(kind);
        for (int a = 0; a < names.parties; a++) {
            for (int b = 0; b < names.parties; b++) {
                long amount = solver.first[cell(a, b)];
                if (amount > 0) {
                    book.append(a, b, amount, kind);
                }
            }
        }
        return book.size;
    }

    public int undo() {
        if (past.size == 0) {
            return CANNOT_BE;
        }
        past.takeBack(book);
        solvedKind = NONE;
        return past.size;
    }

    // ---- trades, nets

    public int tradeOf(int trade, int what) {
        if (noTrade(trade)) {
            return NO_SUCH;
        }
        switch (what) {
            case 0:
                return book.from[trade];
            case 1:
                return book.to[trade];
            case 2:
                return (int) book.amount[trade];
            case 3:
                return book.kind[trade];
            case 4:
                return book.kept[trade] ? 1 : 0;
            default:
                return NO_SUCH;
        }
    }

    public int flow(int a, int b, int kind) {
        if (noCouple(a, b) || noKind(kind)) {
            return NO_SUCH;
        }
        gatherFlows(kind, NONE);
        return (int) flows.cells[cell(a, b)];
    }

    public int net(int party, int kind, boolean free) {
        if (noParty(party) || noKind(kind)) {
            return NO_SUCH;
        }
        if (free) {
            gatherFlows(kind, NONE);
            return (int) (flows.netOf(party) + TOLD_MORE);
        }
        return (int) (book.allFrom(party, kind) - book.allTo(party, kind) + TOLD_MORE);
    }

    public int side(int party, int kind, int what) {
        if (noParty(party) || noKind(kind)) {
            return NO_SUCH;
        }
        switch (what) {
            case 0:
                return (int) book.allFrom(party, kind);
            case 1:
                return (int) book.allTo(party, kind);
            case 2:
                return book.othersOf(party, kind);
            default:
                return NO_SUCH;
        }
    }

    public int total(int kind, int what) {
        if (noKind(kind)) {
            return NO_SUCH;
        }
        gatherFlows(kind, NONE);
        switch (what) {
            case 0:
                return (int) flows.sum();
            case 1:
                return flows.aboveZero();
            case 2:
                return (int) book.keptOf(kind);
            case 3:
                return (int) flows.netsAboveZero();
            default:
                return NO_SUCH;
        }
    }

    public int bound(int a, int b, int kind) {
        if (noCouple(a, b) || noKind(kind)) {
            return NO_SUCH;
        }
        gatherFlows(kind, NONE);
        return (int) boundOf(book, flows, a, b);
    }

    // ---- rings

    public int ring(int kind, int i) {
        if (noKind(kind)) {
            return NO_SUCH;
        }
        if (i < NONE) {
            return BAD_NUMBER;
        }
        findRing(kind);
        if (rings.size == 0 || i >= rings.size) {
            return NONE;
        }
        return i == NONE ? rings.size : rings.party[i];
    }

    public int load(int kind) {
        if (noKind(kind)) {
            return NO_SUCH;
        }
        findRing(kind);
        return rings.size == 0 ? NONE : (int) rings.leastFlow(flows);
    }

    public int cleared(int kind, int what) {
        if (noKind(kind)) {
            return NO_SUCH;
        }
        gatherFlows(kind, NONE);
        rings.takeOut(flows, MOST_ROUNDS);
        switch (what) {
            case 0:
                return (int) rings.takenAmount;
            case 1:
                return rings.takenRings;
            case 2:
                return flows.aboveZero();
            default:
                return NO_SUCH;
        }
    }

    public int rounds(int kind, int n) {
        if (noKind(kind)) {
            return NO_SUCH;
        }
        if (n < 0 || n > MOST_ROUNDS) {
            return BAD_NUMBER;
        }
        gatherFlows(kind, NONE);
        rings.takeOut(flows, n);
        return (int) flows.sum();
    }

    public int chain(int kind, int i) {
        if (noKind(kind)) {
            return NO_SUCH;
        }
        if (i < NONE) {
            return BAD_NUMBER;
        }
        gatherFlows(kind, NONE);
        rings.takeOut(flows, MOST_ROUNDS);
        row.find(flows);
        if (i == NONE) {
            return row.size;
        }
        return i < row.size ? row.party[i] : NONE;
    }

    // ---- pressed

    public int least(int kind) {
        if (noKind(kind)) {
            return NO_SUCH;
        }
        solveKind(kind);
        return solver.possible ? (int) solver.sum : NONE;
    }

    public int pressed(int a, int b, int kind) {
        if (noCouple(a, b) || noKind(kind)) {
            return NO_SUCH;
        }
        solveKind(kind);
        return solver.possible ? (int) solver.first[cell(a, b)] : NONE;
    }

    public int couples(int kind) {
        if (noKind(kind)) {
            return NO_SUCH;
        }
        solveKind(kind);
        return solver.possible ? solver.firstAboveZero() : NONE;
    }

    public int span(int a, int b, int kind, int high) {
        if (noCouple(a, b) || noKind(kind)) {
            return NO_SUCH;
        }
        if (high != 0 && high != 1) {
            return BAD_NUMBER;
        }
        solveKind(kind);
        return solver.possible ? (int) solver.farthest(a, b, high == 1) : NONE;
    }

    public int gain(int a, int b, int kind) {
        if (noCouple(a, b) || noKind(kind)) {
            return NO_SUCH;
        }
        solveKind(kind);
        if (!solver.possible) {
            return NONE;
        }
        prepareTrial(kind, NONE);
        trial.bounds[cell(a, b)]++;
        trial.solve();
        return (int) (solver.sum - trial.sum);
    }

    public int without(int party, int kind) {
        if (noParty(party) || noKind(kind)) {
            return NO_SUCH;
        }
        gatherFlows(kind, NONE);
        long own = flows.outOf(party) + flows.into(party);
        prepareTrial(kind, party);
        trial.solve();
        return trial.possible ? (int) (trial.sum + own) : NONE;
    }

    public int relief(int party, int kind) {
        if (noParty(party) || noKind(kind)) {
            return NO_SUCH;
        }
        solveKind(kind);
        if (!solver.possible) {
            return NONE;
        }
        gatherFlows(kind, NONE);
        return (int) (reliefOf(party) + TOLD_MORE);
    }

    public int through(int party, int kind, int what) {
        if (noParty(party) || noKind(kind)) {
            return NO_SUCH;
        }
        switch (what) {
            case 0:
                gatherFlows(kind, NONE);
                return (int) flows.throughOf(party);
            case 1:
                solveKind(kind);
                return solver.possible
                    ? (int) Math.min(sumOut(solver.first, party), sumIn(solver.first, party)) : NONE;
            default:
                return NO_SUCH;
        }
    }

    public int relieved(int kind) {
        if (noKind(kind)) {
            return NO_SUCH;
        }
        solveKind(kind);
        if (!solver.possible) {
            return NONE;
        }
        gatherFlows(kind, NONE);
        int best = NONE;
        long most = 0;
        for (int party = 0; party < names.parties; party++) {
            long own = reliefOf(party);
            if (best == NONE || own > most) {
                best = party;
                most = own;
            }
        }
        return best;
    }

    public int all() {
        long sum = 0;
        for (int kind = 0; kind < names.kinds; kind++) {
            prepareTrial(kind, NONE);
            trial.solve();
            if (!trial.possible) {
                return NONE;
            }
            sum += trial.sum;
        }
        return (int) sum;
    }

    public int enough(int a, int b, int kind) {
        if (noCouple(a, b) || noKind(kind)) {
            return NO_SUCH;
        }
        prepareTrial(kind, NONE);
        trial.bounds[cell(a, b)] = MOST_CAP;
        trial.solve();
        // A bound keeps that LEAST just when one of the least ways stays within it.
        return trial.possible ? (int) trial.farthest(a, b, false) : NONE;
    }

    // ---- groups

    public int fewest(int kind, int what) {
        if (noKind(kind)) {
            return NO_SUCH;
        }
        gatherFlows(kind, NONE);
        groups.find(flows);
        switch (what) {
            case 0:
                return groups.size - groups.most;
            case 1:
                return groups.most;
            default:
                return NO_SUCH;
        }
    }

    public int even(int parties, int kind) {
        if (noKind(kind) || (parties >>> names.parties) != 0) {
            return NO_SUCH;
        }
        if (Integer.bitCount(parties) < 2) {
            return BAD_NUMBER;
        }
        gatherFlows(kind, NONE);
        long sum = 0;
        for (int party = 0; party < names.parties; party++) {
            if ((parties >>> party & 1) == 1) {
                sum += flows.netOf(party);
            }
        }
        return sum == 0 ? 1 : 0;
    }

    // ---- pages

    public int line(int trade, int i) {
        if (noTrade(trade)) {
            return NO_SUCH;
        }
        if (i < 0) {
            return BAD_NUMBER;
        }
        page.write(names, book, trade);
        return i < page.length ? page.bytes[i] : NONE;
    }

    public int count(int what) {
        switch (what) {
            case 0:
                return names.parties;
            case 1:
                return names.kinds;
            case 2:
                return book.size;
            case 3:
                return book.keptTrades();
            case 4:
                return book.boundMode;
            case 5:
                return past.size;
            case 6:
                return tape.length;
            default:
                return NONE;
        }
    }

    private boolean noParty(int party) {
        return party < 0 || party >= names.parties;
    }

    private boolean noCouple(int a, int b) {
        return noParty(a) || noParty(b) || a == b;
    }

    private boolean noKind(int kind) {
        return kind < 0 || kind >= names.kinds;
    }

    private boolean noTrade(int trade) {
        return trade < 0 || trade >= book.size;
    }

    /** What was told ahead lies with the reader then, to be written over by the next text. */
    private void takeOver() {
        Names oldNames = names;
        names = reader.names;
        reader.names = oldNames;
        Book oldBook = book;
        book = reader.book;
        reader.book = oldBook;
    }

    private void rememberAct() {
        past.push(book);
        solvedKind = NONE;
    }

    private void gatherFlows(int kind, int without) {
        flows.gather(book, names.parties, kind, without);
    }

    private void findRing(int kind) {
        gatherFlows(kind, NONE);
        rings.find(flows);
    }

    /** Many calls in a row ask of the same kind, so what was solved last stays till an act. */
    private void solveKind(int kind) {
        if (solvedKind == kind) {
            return;
        }
        gatherFlows(kind, NONE);
        solver.prepare(book, flows);
        solver.solve();
        if (solver.possible) {
            solver.findFirst();
        }
        solvedKind = kind;
    }

    private void prepareTrial(int kind, int without) {
        gatherFlows(kind, without);
        trial.prepare(book, flows);
    }

    private long reliefOf(int party) {
        return flows.outOf(party) + flows.into(party)
            - sumOut(solver.first, party) - sumIn(solver.first, party);
    }

    private static int cell(int a, int b) {
        return a * MOST_PARTIES + b;
    }

    private static long sumOut(long[] cells, int party) {
        long sum = 0;
        for (int other = 0; other < MOST_PARTIES; other++) {
            sum += cells[cell(party, other)];
        }
        return sum;
    }

    private static long sumIn(long[] cells, int party) {
        long sum = 0;
        for (int other = 0; other < MOST_PARTIES; other++) {
            sum += cells[cell(other, party)];
        }
        return sum;
    }

    private static int cellsAboveZero(long[] cells) {
        int found = 0;
        for (int i = 0; i < CELLS; i++) {
            if (cells[i] > 0) {
                found++;
            }
        }
        return found;
    }

    private static long boundOf(Book book, Flows flows, int a, int b) {
        switch (book.boundMode) {
            case 0:
                return flows.cells[cell(a, b)];
            case 2:
                return book.caps[cell(a, b)];
            default:
                return flows.cells[cell(a, b)] + flows.cells[cell(b, a)];
        }
    }

    /** The bytes that were fed and not told yet. */
    private static final class Tape {
        final byte[] bytes = new byte[MOST_BYTES];
        int length;

        void append(int four) {
            for (int shift = 24; shift >= 0; shift -= 8) {
                if (length < MOST_BYTES) {
                    bytes[length] = (byte) (four >>> shift);
                    length++;
                }
            }
        }
    }

    /** The names of parties and kinds, in rows of eight letters. */
    private static final class Names {
        private static final int FIRST_KIND = MOST_PARTIES;
        private static final int MOST_NAMES = MOST_PARTIES + MOST_KINDS;

        final byte[] letters = new byte[MOST_NAMES * NAME_LETTERS];
        final int[] lengths = new int[MOST_NAMES];
        int parties;
        int kinds;

        void clear() {
            parties = 0;
            kinds = 0;
        }

        void appendParty(byte[] text, int at, int length) {
            if (parties < MOST_PARTIES) {
                put(parties, text, at, length);
                parties++;
            }
        }

        void appendKind(byte[] text, int at, int length) {
            if (kinds < MOST_KINDS) {
                put(FIRST_KIND + kinds, text, at, length);
                kinds++;
            }
        }

        int find(int first, int number, byte[] text, int at, int length) {
            for (int i = 0; i < number; i++) {
                if (same(first + i, text, at, length)) {
                    return i;
                }
            }
            return NONE;
        }

        private void put(int slot, byte[] text, int at, int length) {
            lengths[slot] = Math.min(length, NAME_LETTERS);
            for (int i = 0; i < lengths[slot]; i++) {
                letters[slot * NAME_LETTERS + i] = text[at + i];
            }
        }

        private boolean same(int slot, byte[] text, int at, int length) {
            if (lengths[slot] != length) {
                return false;
            }
            for (int i = 0; i < length; i++) {
                if (letters[slot * NAME_LETTERS + i] != text[at + i]) {
                    return false;
                }
            }
            return true;
        }
    }

    /** All that acts can change: the trades, the mode, the caps. */
    private static final class Book {
        final int[] from = new int[MOST_TRADES];
        final int[] to = new int[MOST_TRADES];
        final int[] kind = new int[MOST_TRADES];
        // Pressed trades can be larger than told ones, and their sums larger still.
        final long[] amount = new long[MOST_TRADES];
        final boolean[] kept = new boolean[MOST_TRADES];
        final int[] caps = new int[CELLS];
        int size;
        int boundMode;

        Book() {
            Arrays.fill(caps, MOST_CAP);
        }

        void clear() {
            Arrays.fill(caps, MOST_CAP);
            size = 0;
            boundMode = 0;
        }

        void copyFrom(Book other) {
            for (int i = 0; i < other.size; i++) {
                copyTrade(other, i, i);
            }
            System.arraycopy(other.caps, 0, caps, 0, CELLS);
            size = other.size;
            boundMode = other.boundMode;
        }

        void append(int giver, int taker, long much, int ofKind) {
            if (size >= MOST_TRADES) {
                return;
            }
            from[size] = giver;
            to[size] = taker;
            amount[size] = much;
            kind[size] = ofKind;
            kept[size] = false;
            size++;
        }

        void remove(int trade) {
            for (int i = trade; i + 1 < size; i++) {
                copyTrade(this, i + 1, i);
            }
            size--;
        }

        private void copyTrade(Book source, int there, int here) {
            from[here] = source.from[there];
            to[here] = source.to[there];
            amount[here] = source.amount[there];
            kind[here] = source.kind[there];
            kept[here] = source.kept[there];
        }

        void removeOpen(int ofKind) {
            for (int i = size - 1; i >= 0; i--) {
                if (kind[i] == ofKind && !kept[i]) {
                    remove(i);
                }
            }
        }

        void lessen(int giver, int taker, int ofKind, long much) {
            long rest = much;
            for (int i = size - 1; i >= 0; i--) {
                if (from[i] == giver && to[i] == taker && kind[i] == ofKind && !kept[i]) {
                    long part = Math.min(rest, amount[i]);
                    amount[i] -= part;
                    rest -= part;
                    if (amount[i] == 0) {
                        remove(i);
                    }
                }
            }
        }

        int openOf(int ofKind) {
            int found = 0;
            for (int i = 0; i < size; i++) {
                if (kind[i] == ofKind && !kept[i]) {
                    found++;
                }
            }
            return found;
        }

        int keptTrades() {
            int found = 0;
            for (int i = 0; i < size; i++) {
                if (kept[i]) {
                    found++;
                }
            }
            return found;
        }

        long keptOf(int ofKind) {
            long sum = 0;
            for (int i = 0; i < size; i++) {
                if (kind[i] == ofKind && kept[i]) {
                    sum += amount[i];
                }
            }
            return sum;
        }

        long allFrom(int party, int ofKind) {
            long sum = 0;
            for (int i = 0; i < size; i++) {
                if (kind[i] == ofKind && from[i] == party) {
                    sum += amount[i];
                }
            }
            return sum;
        }

        long allTo(int party, int ofKind) {
            long sum = 0;
            for (int i = 0; i < size; i++) {
                if (kind[i] == ofKind && to[i] == party) {
                    sum += amount[i];
                }
            }
            return sum;
        }

        int othersOf(int party, int ofKind) {
            int others = 0;
            for (int i = 0; i < size; i++) {
                if (kind[i] == ofKind && from[i] == party) {
                    others |= 1 << to[i];
                } else if (kind[i] == ofKind && to[i] == party) {
                    others |= 1 << from[i];
                }
            }
            return Integer.bitCount(others);
        }
    }

    /** The books as they were ahead of the latest acts, the oldest first. */
    private static final class Past {
        private final Book[] books = new Book[MOST_ACTS];
        int size;

        Past() {
            for (int i = 0; i < MOST_ACTS; i++) {
                books[i] = new Book();
            }
        }

        void push(Book book) {
            if (size == MOST_ACTS) {
                forgetOldest();
            }
            books[size].copyFrom(book);
            size++;
        }

        void takeBack(Book book) {
            if (size > 0) {
                size--;
                book.copyFrom(books[size]);
            }
        }

        private void forgetOldest() {
            Book oldest = books[0];
            for (int i = 0; i + 1 < MOST_ACTS; i++) {
                books[i] = books[i + 1];
            }
            books[MOST_ACTS - 1] = oldest;
            size--;
        }
    }

    /** Reads a text into names and a book, up to the first fault along it. */
    private static final class Reader {
        private static final int OUT_OF_PLACE = 1;
        private static final int OUT_OF_BOUNDS = 2;
        private static final int WRONG_NAME = 3;
        private static final int ONE_TOO_MANY = 4;
        private static final int WITH_ITSELF = 5;

        private static final int AT_END = 0;
        private static final int AT_OTHER = 1;
        private static final int AT_SEMICOLON = 2;
        private static final int AT_NUMBER = 3;
        private static final int AT_NAME = 4;
        private static final int AT_PARTY = 5;
        private static final int AT_KIND = 6;
        private static final int AT_TRADE = 7;
        private static final int AT_KEEP = 8;
        private static final int AT_CAP = 9;
        private static final int AT_MODE = 10;

        int fault;
        int place = NONE;
        Names names = new Names();
        Book book = new Book();
        private final byte[] text;
        private int end;
        private boolean modeTold;
        private int token;
        private int tokenAt;
        private int tokenEnd;

        Reader(Tape tape) {
            text = tape.bytes;
        }

        void read(int length) {
            end = Math.min(length, text.length);
            names.clear();
            book.clear();
            modeTold = false;
            fault = 0;
            place = NONE;
            tokenEnd = 0;
            next();
            for (int lines = 0; lines < MOST_BYTES && fault == 0 && token != AT_END; lines++) {
                readLine();
            }
        }

        private void readLine() {
            switch (token) {
                case AT_PARTY:
                    readParty();
                    break;
                case AT_KIND:
                    readKind();
                    break;
                case AT_TRADE:
                    readTrade();
                    break;
                case AT_KEEP:
                    readKeep();
                    break;
                case AT_CAP:
                    readCap();
                    break;
                case AT_MODE:
                    readMode();
                    break;
                default:
                    fail(OUT_OF_PLACE);
                    break;
            }
            readSemicolon();
        }

        private void readParty() {
            if (names.parties >= MOST_PARTIES) {
                fail(ONE_TOO_MANY);
            }
            next();
            checkNewName();
            if (fault == 0) {
                names.appendParty(text, tokenAt, tokenEnd - tokenAt);
            }
            next();
        }

        private void readKind() {
            if (names.kinds >= MOST_KINDS) {
                fail(ONE_TOO_MANY);
            }
            next();
            checkNewName();
            if (fault == 0) {
                names.appendKind(text, tokenAt, tokenEnd - tokenAt);
            }
            next();
        }

        private void readTrade() {
            if (book.size >= MOST_TRADES) {
                fail(ONE_TOO_MANY);
            }
            next();
            int giver = knownParty();
            next();
            int taker = knownParty();
            failIfSame(giver, taker);
            next();
            int amount = numberWithin(1, MOST_AMOUNT);
            next();
            int kind = knownKind();
            next();
            if (fault == 0) {
                book.append(giver, taker, amount, kind);
            }
        }

        private void readKeep() {
            next();
            int trade = numberWithin(0, book.size - 1);
            if (fault == 0 && book.kept[trade]) {
                fail(WITH_ITSELF);
            }
            if (fault == 0) {
                book.kept[trade] = true;
            }
            next();
        }

        private void readCap() {
            next();
            int giver = knownParty();
            next();
            int taker = knownParty();
            failIfSame(giver, taker);
            next();
            int most = numberWithin(0, MOST_CAP);
            if (fault == 0) {
                book.caps[cell(giver, taker)] = most;
            }
            next();
        }

        private void readMode() {
            if (modeTold) {
                fail(OUT_OF_PLACE);
            }
            modeTold = true;
            next();
            int told = numberWithin(0, LAST_MODE);
            if (fault == 0) {
                book.boundMode = told;
            }
            next();
        }

        private void readSemicolon() {
            if (token != AT_SEMICOLON) {
                fail(OUT_OF_PLACE);
            }
            next();
        }

        private void checkNewName() {
            if (token != AT_NAME) {
                fail(OUT_OF_PLACE);
            } else if (partyHere() != NONE || kindHere() != NONE) {
                fail(WRONG_NAME);
            }
        }

        private int knownParty() {
            if (token != AT_NAME) {
                fail(OUT_OF_PLACE);
                return NONE;
            }
            int party = partyHere();
            if (party == NONE) {
                fail(WRONG_NAME);
            }
            return party;
        }

        private void failIfSame(int giver, int taker) {
            if (giver == taker) {
                fail(WITH_ITSELF);
            }
        }

        private int knownKind() {
            if (token != AT_NAME) {
                fail(OUT_OF_PLACE);
                return NONE;
            }
            int kind = kindHere();
            if (kind == NONE) {
                fail(WRONG_NAME);
            }
            return kind;
        }

        private int numberWithin(int low, int high) {
            if (token != AT_NUMBER) {
                fail(OUT_OF_PLACE);
                return 0;
            }
            if (tokenEnd - tokenAt > NUMBER_DIGITS) {
                fail(OUT_OF_BOUNDS);
                return 0;
            }
            int value = 0;
            for (int i = tokenAt; i < tokenEnd; i++) {
                value = value * 10 + (text[i] - '0');
            }
            if (value < low || value > high) {
                fail(OUT_OF_BOUNDS);
            }
            return value;
        }

        private int partyHere() {
            return names.find(0, names.parties, text, tokenAt, tokenEnd - tokenAt);
        }

        private int kindHere() {
            return names.find(Names.FIRST_KIND, names.kinds, text, tokenAt, tokenEnd - tokenAt);
        }

        private boolean isWord(String word) {
            if (tokenEnd - tokenAt != word.length()) {
                return false;
            }
            for (int i = 0; i < word.length(); i++) {
                if (text[tokenAt + i] != word.charAt(i)) {
                    return false;
                }
            }
            return true;
        }

        /** The text is read from its start on, so the fault that comes first is the first along it. */
        private void fail(int code) {
            if (fault == 0) {
                fault = code;
                place = tokenAt;
            }
        }

        private void next() {
            tokenAt = tokenEnd;
            while (tokenAt < end && text[tokenAt] == ' ') {
                tokenAt++;
            }
            tokenEnd = tokenAt;
            if (tokenAt >= end) {
                token = AT_END;
            } else if (isLetter(text[tokenAt])) {
                while (tokenEnd < end && isLetter(text[tokenEnd])) {
                    tokenEnd++;
                }
                token = wordToken();
            } else if (isDigit(text[tokenAt])) {
                token = AT_NUMBER;
                while (tokenEnd < end && isDigit(text[tokenEnd])) {
                    tokenEnd++;
                }
            } else {
                token = text[tokenAt] == ';' ? AT_SEMICOLON : AT_OTHER;
                tokenEnd++;
            }
        }

        private int wordToken() {
            if (isWord("party")) {
                return AT_PARTY;
            }
            if (isWord("kind")) {
                return AT_KIND;
            }
            if (isWord("trade")) {
                return AT_TRADE;
            }
            if (isWord("keep")) {
                return AT_KEEP;
            }
            if (isWord("cap")) {
                return AT_CAP;
            }
            if (isWord("mode")) {
                return AT_MODE;
            }
            return tokenEnd - tokenAt <= NAME_LETTERS ? AT_NAME : AT_OTHER;
        }

        private static boolean isLetter(byte sign) {
            return sign >= 'a' && sign <= 'z';
        }

        private static boolean isDigit(byte sign) {
            return sign >= '0' && sign <= '9';
        }
    }

    /** What goes from party to party in one kind, a cell for each ordered couple. */
    private static final class Flows {
        final long[] cells = new long[CELLS];
        int parties;

        void gather(Book book, int number, int kind, int without) {
            Arrays.fill(cells, 0L);
            parties = number;
            for (int i = 0; i < book.size; i++) {
                if (book.kind[i] == kind && !book.kept[i]
                    && book.from[i] != without && book.to[i] != without) {
                    cells[cell(book.from[i], book.to[i])] += book.amount[i];
                }
            }
        }

        boolean goes(int a, int b) {
            return cells[cell(a, b)] > 0;
        }

        long outOf(int party) {
            return sumOut(cells, party);
        }

        long into(int party) {
            return sumIn(cells, party);
        }

        long netOf(int party) {
            return outOf(party) - into(party);
        }

        long throughOf(int party) {
            return Math.min(outOf(party), into(party));
        }

        long sum() {
            long sum = 0;
            for (int i = 0; i < CELLS; i++) {
                sum += cells[i];
            }
            return sum;
        }

        int aboveZero() {
            return cellsAboveZero(cells);
        }

        long netsAboveZero() {
            long sum = 0;
            for (int party = 0; party < parties; party++) {
                sum += Math.max(0L, netOf(party));
            }
            return sum;
        }
    }

    /** The shortest ring of some flows, and taking rings out. */
    private static final class Rings {
        final int[] party = new int[MOST_PARTIES];
        int size;
        long takenAmount;
        int takenRings;
        private final int[] stepsHome = new int[MOST_PARTIES];
        private final int[] queue = new int[MOST_PARTIES];

        /** Size is 0 if there is none. */
        void find(Flows flows) {
            size = 0;
            for (int home = 0; home < flows.parties; home++) {
                measureSteps(flows, home);
                int length = lengthFrom(flows, home);
                if (length != NONE && (size == 0 || length < size)) {
                    size = length;
                    walk(flows, home);
                }
            }
        }

        int after(int i) {
            return i + 1 < size ? i + 1 : 0;
        }

        long leastFlow(Flows flows) {
            long least = flows.cells[cell(party[0], party[after(0)])];
            for (int i = 1; i < size; i++) {
                least = Math.min(least, flows.cells[cell(party[i], party[after(i)])]);
            }
            return least;
        }

        /** Each ring that goes leaves one couple more without flow, so 56 rounds would do. */
        void takeOut(Flows flows, int most) {
            takenAmount = 0;
            takenRings = 0;
            for (int round = 0; round < most; round++) {
                find(flows);
                if (size == 0) {
                    return;
                }
                long amount = leastFlow(flows);
                for (int i = 0; i < size; i++) {
                    flows.cells[cell(party[i], party[after(i)])] -= amount;
                }
                takenAmount += amount * size;
                takenRings++;
            }
        }

        /** Only parties above home may stand in a ring that is told from home on. */
        private void measureSteps(Flows flows, int home) {
            Arrays.fill(stepsHome, NONE);
            stepsHome[home] = 0;
            queue[0] = home;
            int tail = 1;
            for (int head = 0; head < tail && head < MOST_PARTIES; head++) {
                int reached = queue[head];
                for (int other = home + 1; other < flows.parties; other++) {
                    if (tail < MOST_PARTIES && stepsHome[other] == NONE && flows.goes(other, reached)) {
                        stepsHome[other] = stepsHome[reached] + 1;
                        queue[tail] = other;
                        tail++;
                    }
                }
            }
        }

        private int lengthFrom(Flows flows, int home) {
            int length = NONE;
            for (int other = home + 1; other < flows.parties; other++) {
                if (stepsHome[other] != NONE && flows.goes(home, other)
                    && (length == NONE || stepsHome[other] + 1 < length)) {
                    length = stepsHome[other] + 1;
                }
            }
            return length;
        }

        private void walk(Flows flows, int home) {
            party[0] = home;
            for (int i = 1; i < size; i++) {
                party[i] = nextOf(flows, party[i - 1], home, size - i);
            }
        }

        private int nextOf(Flows flows, int current, int home, int steps) {
            for (int other = home + 1; other < flows.parties; other++) {
                if (stepsHome[other] == steps && flows.goes(current, other)) {
                    return other;
                }
            }
            return home;
        }
    }

    /** The longest row of parties along flows that have no ring. */
    private static final class Row {
        final int[] party = new int[MOST_PARTIES];
        int size;
        private final int[] longest = new int[MOST_PARTIES];

        /** Size is 0 if there is no flow. */
        void find(Flows flows) {
            measure(flows);
            size = 0;
            int length = 0;
            for (int start = 0; start < flows.parties; start++) {
                length = Math.max(length, longest[start]);
            }
            if (length < 2) {
                return;
            }
            for (int i = 0; i < length && i < MOST_PARTIES; i++) {
                int found = nextOf(flows, length - i);
                if (found == NONE) {
                    return;
                }
                party[size] = found;
                size++;
            }
        }

        /** Without a ring no row is longer than there are parties, so as many passes do. */
        private void measure(Flows flows) {
            Arrays.fill(longest, 1);
            for (int pass = 1; pass < flows.parties; pass++) {
                for (int a = 0; a < flows.parties; a++) {
                    for (int b = 0; b < flows.parties; b++) {
                        if (flows.goes(a, b) && longest[a] <= longest[b]) {
                            longest[a] = longest[b] + 1;
                        }
                    }
                }
            }
        }

        private int nextOf(Flows flows, int length) {
            for (int next = 0; next < flows.parties; next++) {
                if (longest[next] == length && (size == 0 || flows.goes(party[size - 1], next))) {
                    return next;
                }
            }
            return NONE;
        }
    }

    /**
     * The least way to the same nets within bounds, by labels and shortest rows of steps.
     *
     * <p>Each party is two nodes, what comes in (2 * party) and what goes out (2 * party + 1); the
     * step between them is what goes through, so that mode 3 can bound it. Labels keep the price of
     * every open step at 0 or more; a least way can be changed into every other least way along
     * steps of price 0, and into no other.
     */
    private static final class Solver {
        private static final int NODES = 2 * MOST_PARTIES;
        private static final int NOT_REACHED = -2;
        private static final int START = -1;
        private static final int MOST_STEPS = 1000000;
        private static final long WITHOUT_BOUND = 1L << 50;

        final long[] bounds = new long[CELLS];
        final long[] first = new long[CELLS];
        boolean possible;
        long sum;
        private final long[] throughBounds = new long[MOST_PARTIES];
        private final long[] nets = new long[MOST_PARTIES];
        private final long[] room = new long[NODES * NODES];
        private final int[] label = new int[NODES];
        private final long[] left = new long[NODES];
        private final int[] before = new int[NODES];
        private final int[] queue = new int[NODES];
        private int parties;
        private int nodes;

        void prepare(Book book, Flows flows) {
            parties = flows.parties;
            nodes = 2 * parties;
            Arrays.fill(bounds, 0L);
            for (int a = 0; a < parties; a++) {
                nets[a] = flows.netOf(a);
                throughBounds[a] = book.boundMode == 3 ? flows.throughOf(a) : WITHOUT_BOUND;
                for (int b = 0; b < parties; b++) {
                    if (a != b) {
                        bounds[cell(a, b)] = boundOf(book, flows, a, b);
                    }
                }
            }
        }

        void solve() {
            Arrays.fill(room, 0L);
            Arrays.fill(label, 0);
            Arrays.fill(left, 0L);
            for (int a = 0; a < parties; a++) {
                room[step(in(a), out(a))] = throughBounds[a];
                left[out(a)] = Math.max(0L, nets[a]);
                left[in(a)] = Math.min(0L, nets[a]);
                for (int b = 0; b < parties; b++) {
                    if (a != b) {
                        open(a, b, 0L);
                    }
                }
            }
            ship(true);
            possible = nothingLeft();
            sum = numbersTogether();
        }

        private boolean nothingLeft() {
            for (int node = 0; node < nodes; node++) {
                if (left[node] != 0) {
                    return false;
                }
            }
            return true;
        }

        /** Couple by couple as low as it goes and held there: the first of all least ways. */
        void findFirst() {
            Arrays.fill(first, 0L);
            for (int a = 0; a < parties; a++) {
                for (int b = 0; b < parties; b++) {
                    if (a != b) {
                        first[cell(a, b)] = shutFarthest(a, b, false);
                    }
                }
            }
            for (int a = 0; a < parties; a++) {
                for (int b = 0; b < parties; b++) {
                    if (a != b) {
                        open(a, b, first[cell(a, b)]);
                    }
                }
            }
        }

        int firstAboveZero() {
            return cellsAboveZero(first);
        }

        /** The greatest (up) or least number of a couple by any least way. */
        long farthest(int a, int b, boolean up) {
            long number = shutFarthest(a, b, up);
            open(a, b, number);
            return number;
        }

        private long shutFarthest(int a, int b, boolean up) {
            int start = out(a);
            int goal = in(b);
            long number = room[step(goal, start)];
            long spare = room[step(start, goal)];
            room[step(goal, start)] = 0;
            room[step(start, goal)] = 0;
            if (price(start, goal) != 0) {
                return number;
            }
            return up ? number + move(goal, start, spare) : number - move(start, goal, number);
        }

        private long move(int start, int goal, long most) {
            Arrays.fill(left, 0L);
            left[start] = most;
            left[goal] = -most;
            ship(false);
            return most - left[start];
        }

        private void open(int a, int b, long number) {
            room[step(out(a), in(b))] = bounds[cell(a, b)] - number;
            room[step(in(b), out(a))] = number;
        }

        private long numbersTogether() {
            long together = 0;
            for (int a = 0; a < parties; a++) {
                for (int b = 0; b < parties; b++) {
                    if (a != b) {
                        together += room[step(in(b), out(a))];
                    }
                }
            }
            return together;
        }

        /** Brings what is left at some nodes to where it lacks, as far as it goes. */
        private void ship(boolean lifting) {
            for (int i = 0; i < MOST_STEPS; i++) {
                int goal = search();
                if (goal != NONE) {
                    carry(goal);
                } else if (!lifting || !lift()) {
                    return;
                }
            }
        }

        /** The nearest node that lacks something, by open steps of price 0; NONE if none is reached. */
        private int search() {
            int tail = 0;
            for (int node = 0; node < nodes; node++) {
                before[node] = NOT_REACHED;
                if (left[node] > 0) {
                    before[node] = START;
                    queue[tail] = node;
                    tail++;
                }
            }
            for (int head = 0; head < tail && head < NODES; head++) {
                int node = queue[head];
                for (int next = 1 - (node & 1); next < nodes; next += 2) {
                    if (tail < NODES && before[next] == NOT_REACHED && room[step(node, next)] > 0
                        && price(node, next) == 0) {
                        before[next] = node;
                        if (left[next] < 0) {
                            return next;
                        }
                        queue[tail] = next;
                        tail++;
                    }
                }
            }
            return NONE;
        }

        private void carry(int goal) {
            long amount = -left[goal];
            int node = goal;
            for (int i = 0; i < NODES && before[node] >= 0; i++) {
                amount = Math.min(amount, room[step(before[node], node)]);
                node = before[node];
            }
            amount = Math.min(amount, left[node]);
            left[node] -= amount;
            left[goal] += amount;
            node = goal;
            for (int i = 0; i < NODES && before[node] >= 0; i++) {
                room[step(before[node], node)] -= amount;
                room[step(node, before[node])] += amount;
                node = before[node];
            }
        }

        /** Makes the cheapest step out of what the search reached a step of price 0. */
        private boolean lift() {
            int cheapest = NONE;
            for (int node = 0; node < nodes; node++) {
                for (int next = 1 - (node & 1); next < nodes; next += 2) {
                    if (before[node] != NOT_REACHED && before[next] == NOT_REACHED
                        && room[step(node, next)] > 0
                        && (cheapest == NONE || price(node, next) < cheapest)) {
                        cheapest = price(node, next);
                    }
                }
            }
            if (cheapest == NONE) {
                return false;
            }
            for (int node = 0; node < nodes; node++) {
                if (before[node] == NOT_REACHED) {
                    label[node] += cheapest;
                }
            }
            return true;
        }

        private int price(int node, int next) {
            int cost = 0;
            if ((node >> 1) != (next >> 1)) {
                cost = (node & 1) == 1 ? 1 : -1;
            }
            return cost + label[node] - label[next];
        }

        private static int in(int party) {
            return 2 * party;
        }

        private static int out(int party) {
            return 2 * party + 1;
        }

        private static int step(int node, int next) {
            return node * NODES + next;
        }
    }

    /** The most groups whose free nets come to nothing among themselves. */
    private static final class Groups {
        int size;
        int most;
        private final long[] nets = new long[MOST_PARTIES];
        private final long[] sums = new long[1 << MOST_PARTIES];
        private final int[] best = new int[1 << MOST_PARTIES];

        void find(Flows flows) {
            size = 0;
            for (int party = 0; party < flows.parties; party++) {
                long net = flows.netOf(party);
                if (net != 0) {
                    nets[size] = net;
                    size++;
                }
            }
            sums[0] = 0;
            best[0] = 0;
            for (int set = 1; set < 1 << size; set++) {
                measure(set);
            }
            most = best[(1 << size) - 1];
        }

        /** Groups laid one behind the other: each ends where the sum so far is 0. */
        private void measure(int set) {
            int found = 0;
            for (int i = 0; i < size; i++) {
                int rest = set & ~(1 << i);
                if (rest != set) {
                    found = Math.max(found, best[rest]);
                    sums[set] = sums[rest] + nets[i];
                }
            }
            best[set] = sums[set] == 0 ? found + 1 : found;
        }
    }

    /** One trade as a line of bytes. */
    private static final class Page {
        private static final int MOST_SIGNS = 64;
        private static final int MOST_DIGITS = 19;

        final byte[] bytes = new byte[MOST_SIGNS];
        int length;
        private final byte[] digits = new byte[MOST_DIGITS];

        void write(Names names, Book book, int trade) {
            length = 0;
            putName(names, book.from[trade]);
            put('>');
            putName(names, book.to[trade]);
            put(' ');
            putNumber(book.amount[trade]);
            put(' ');
            putName(names, Names.FIRST_KIND + book.kind[trade]);
            if (book.kept[trade]) {
                put(' ');
                put('*');
            }
        }

        private void putName(Names names, int slot) {
            for (int i = 0; i < names.lengths[slot]; i++) {
                put(names.letters[slot * NAME_LETTERS + i]);
            }
        }

        private void putNumber(long number) {
            int size = 0;
            long rest = number;
            do {
                digits[size] = (byte) ('0' + rest % 10);
                rest = rest / 10;
                size++;
            } while (rest > 0 && size < MOST_DIGITS);
            for (int i = size - 1; i >= 0; i--) {
                put(digits[i]);
            }
        }

        private void put(int sign) {
            if (length < MOST_SIGNS) {
                bytes[length] = (byte) sign;
                length++;
            }
        }
    }
}

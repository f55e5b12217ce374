import java.util.function.Consumer;

/** Each sentence of the document on THE TAPE, THE TEXT and its FAULTS that names an edge. */
public final class TextEdgesTest {
    private static final String TWO = "party a;party b;kind k;";
    private static final String[] WORDS = {"party", "kind", "trade", "keep", "cap", "mode"};
    private static final Checks CHECKS = new Checks("TextEdgesTest");

    public static void main(String[] args) {
        nothingAtFirst();
        highestByteFirst();
        tapeHolds900();
        fullTapeRefuses();
        tellBeyondTheTape();
        tapeIsEmptyThen();
        placeIsWithinTheTextAlone();
        tokensEndWithTheText();
        faultOfTheLatestTell();
        eightParties();
        fourKinds();
        fortyTrades();
        numberedAsTheyCome();
        oneToEightLetters();
        twelveNamesOfEightLetters();
        lettersAreSmall();
        noneOfTheWords();
        unlikeAllTogether();
        amounts();
        keptOnesAreToldAhead();
        keptOnce();
        capsInBounds();
        latestCapCounts();
        modesInBounds();
        modeOnce();
        digits();
        blanks();
        oneBlankBetween();
        otherBytes();
        everyTokenAtEveryPlace();
        everyEnd();
        firstFaultAlongTheText();
        leastFaultOfOnePlace();
        withAFaultAllStays();
        textIsInPlaceOfAll();
        emptyTexts();
        CHECKS.end();
    }

    private static void due(String call, long got, long want) {
        CHECKS.due(call, got, want);
    }

    private static void taken(String text, int trades) {
        SwapPress press = Checks.told("mode 1;");
        due("tell of " + text, Checks.tell(press, text), trades);
        due("fault(0) of " + text, press.fault(0), 0);
        due("fault(1) of " + text, press.fault(1), -1);
        due("trades of " + text, press.count(2), trades);
    }

    private static void faulty(String text, int fault, int place) {
        SwapPress press = Checks.told("party q;mode 1;");
        due("tell of " + text, Checks.tell(press, text), -30 - fault);
        due("fault(0) of " + text, press.fault(0), fault);
        due("fault(1) of " + text, press.fault(1), place);
        due("parties behind " + text, press.count(0), 1);
        due("mode behind " + text, press.count(4), 1);
        due("tape behind " + text, press.count(6), 0);
    }

    /** The first fault of what follows a text without one. */
    private static void faultyBehind(String ahead, String line, int fault, int place) {
        faulty(ahead + line, fault, ahead.length() + place);
    }

    // ---- promises 1 to 4

    /** "No PARTIES, no KINDS." */
    private static void nothingAtFirst() {
        SwapPress press = new SwapPress();
        for (int what = 0; what <= 6; what++) {
            due("count(" + what + ") at first", press.count(what), 0);
        }
        due("fault(0) ahead of any", press.fault(0), 0);
        due("fault(1) ahead of any", press.fault(1), -1);
        due("undo() at first", press.undo(), -5);
        due("all() of no kinds", press.all(), 0);
        due("mode(0): what it was", press.mode(0), 0);
    }

    /** "Twenty bytes come behind those on THE TAPE, the highest of each int first." */
    private static void highestByteFirst() {
        SwapPress press = new SwapPress();
        due("feed", press.feed(0x70617274, 0x7920613b, 0x70617274, 0x7920623b, 0x6b696e64), 20);
        due("feed", press.feed(0x206b3b74, 0x72616465, 0x20612062, 0x2035206b, 0x3b206d6f), 40);
        due("tell", press.tell(37), 1);
        CHECKS.due("line", Checks.line(press, 0), "a>b 5 k");
        for (int place = 0; place < 20; place++) {
            int[] five = new int[5];
            java.util.Arrays.fill(five, 0x20202020);
            five[place / 4] |= 0x80 << (24 - place % 4 * 8);
            press.feed(five[0], five[1], five[2], five[3], five[4]);
            due("a high byte", press.tell(20), -31);
            due("the place of it", press.fault(1), place);
        }
    }

    /** "-4: it would have more than 900." */
    private static void tapeHolds900() {
        SwapPress press = new SwapPress();
        for (int i = 1; i <= 45; i++) {
            due("feed", press.feed(0x20202020, 0x20202020, 0x20202020, 0x20202020, 0x2020203b), 20 * i);
            due("count(6)", press.count(6), 20 * i);
        }
        due("feed beyond", press.feed(0, 0, 0, 0, 0), -4);
        due("tell(900)", press.tell(900), -31);
        due("place", press.fault(1), 19);
        due("feed again", press.feed(0, 0, 0, 0, 0), 20);
        String last = " ".repeat(882) + "party a;kind k;x;y";
        due("feed of 900", Checks.feedAll(press, Checks.bytes(last)), -4);
        press.tell(0);
        due("feed of 900", Checks.feedAll(press, Checks.bytes(last)), 900);
        due("tell(900)", press.tell(900), -31);
        due("place near the end", press.fault(1), 897);
        Checks.feedAll(press, Checks.bytes(last));
        due("tell(897)", press.tell(897), 0);
        due("parties at the end", press.count(0), 1);
    }

    /** A refused feed changes nothing: the full tape is told as it was fed. */
    private static void fullTapeRefuses() {
        Consumer<SwapPress> filled = press -> {
            Checks.tell(press, TWO + "trade a b 5 k;");
            press.keep(0);
            Checks.feedAll(press, Checks.bytes((TWO + "trade b a 3 k;" + " ".repeat(900)).substring(0, 900)));
        };
        Whole.unchanged(CHECKS, "feed beyond 900", filled, press -> press.feed(-1, 0, 1, 2, 3), -4);
        SwapPress press = new SwapPress();
        filled.accept(press);
        press.feed(-1, -1, -1, -1, -1);
        due("tell(900)", press.tell(900), 1);
        CHECKS.due("as it was fed", Checks.lines(press), "b>a 3 k;");
    }

    /** "-3: n is below 0, above what there is (THE TAPE stays)." */
    private static void tellBeyondTheTape() {
        Consumer<SwapPress> fed = press -> {
            Checks.tell(press, TWO + "trade a b 5 k;mode 2;");
            press.cap(0, 1, 4);
            Checks.feedAll(press, Checks.bytes("party a;  party a;  "));
        };
        for (int n : new int[] {-1, 21, 40, 900, 901, Integer.MIN_VALUE, Integer.MAX_VALUE}) {
            Whole.unchanged(CHECKS, "tell(" + n + ")", fed, press -> press.tell(n), -3);
        }
        SwapPress press = new SwapPress();
        fed.accept(press);
        due("tell(20), all there is", press.tell(20), -33);
        due("place", press.fault(1), 16);
        due("tell(1) of an empty tape", press.tell(1), -3);
        due("the fault stays", press.fault(0), 3);
        due("its place stays", press.fault(1), 16);
        due("tell(-1) of an empty tape", press.tell(-1), -3);
        due("tell(0) of an empty tape", press.tell(0), 0);
    }

    /** "The first n bytes of THE TAPE (which is empty then)": what is behind them is gone, too. */
    private static void tapeIsEmptyThen() {
        SwapPress press = new SwapPress();
        Checks.feedAll(press, Checks.bytes("party a;party b;kind"));
        due("tell(8)", press.tell(8), 0);
        due("count(6)", press.count(6), 0);
        due("parties", press.count(0), 1);
        due("tell(1)", press.tell(1), -3);
        due("feed", Checks.feedAll(press, Checks.bytes("kind k;")), 20);
        due("tell(7)", press.tell(7), 0);
        due("parties", press.count(0), 0);
        due("kinds", press.count(1), 1);
        Checks.feedAll(press, Checks.bytes("party a;party b;kind"));
        due("tell(9), a fault", press.tell(9), -31);
        due("the tape is empty, too", press.count(6), 0);
        Checks.feedAll(press, Checks.bytes("party a;party b;kind"));
        due("tell(0) of a tape with bytes", press.tell(0), 0);
        due("empty", press.count(6), 0);
    }

    /** "(.. the end: how many bytes there are": n of them, whatever else was on the tape. */
    private static void placeIsWithinTheTextAlone() {
        SwapPress press = new SwapPress();
        String tape = "party abcdefghi;    ";
        int[] places = {-1, 0, 0, 0, 0, 5, 6, 7, 8, 9, 10, 11, 12, 13, 14, 6, 6};
        for (int n = 0; n < places.length; n++) {
            Checks.feedAll(press, Checks.bytes(tape));
            due("tell(" + n + ")", press.tell(n), n == 0 ? 0 : -31);
            due("its place", press.fault(1), places[n]);
        }
    }

    /** What goes on behind the first n bytes is no part of them. */
    private static void tokensEndWithTheText() {
        SwapPress press = new SwapPress();
        Checks.feedAll(press, Checks.bytes("mode 12;"));
        due("a number that goes on", press.tell(6), -31);
        due("its place", press.fault(1), 6);
        Checks.feedAll(press, Checks.bytes("mode 1;;"));
        due("a semicolon behind", press.tell(7), 0);
        Checks.feedAll(press, Checks.bytes("party party;"));
        due("a word that goes on", press.tell(9), -31);
        due("its place", press.fault(1), 9);
        Checks.feedAll(press, Checks.bytes("partyparty a;"));
        due("a word that goes on", press.tell(5), -31);
        due("its place", press.fault(1), 5);
        for (String last : new String[] {"mode 1", "mode 12345678", "mode", "party", "party abc", "party abc ", "mode 1;?"}) {
            String full = " ".repeat(900 - last.length()) + last;
            Checks.feedAll(press, Checks.bytes(full));
            int code = last.equals("mode 12345678") ? -32 : -31;
            due("tell(900) that ends in " + last, press.tell(900), code);
            due("its place", press.fault(1), code == -32 ? 892 : last.endsWith("?") ? 899 : 900);
        }
        Checks.feedAll(press, Checks.bytes(" ".repeat(893) + "mode 3;"));
        due("tell(900) that ends in a line", press.tell(900), 0);
        due("mode", press.count(4), 3);
    }

    /** "Of the latest tell() that emptied THE TAPE (be it of no byte) .. NONE for others." */
    private static void faultOfTheLatestTell() {
        SwapPress press = new SwapPress();
        Checks.tell(press, "mode 4;");
        due("fault(0)", press.fault(0), 2);
        due("fault(1)", press.fault(1), 5);
        for (int what : new int[] {-1, 2, 3, Integer.MIN_VALUE, Integer.MAX_VALUE}) {
            due("fault(" + what + ")", press.fault(what), -1);
        }
        press.mode(3);
        press.feed(0, 0, 0, 0, 0);
        press.feed(0, 0, 0, 0, 0);
        press.tell(41);
        press.tell(-1);
        press.undo();
        due("fault(0) stays", press.fault(0), 2);
        due("fault(1) stays", press.fault(1), 5);
        due("tell(0)", press.tell(0), 0);
        due("fault(0) of no byte", press.fault(0), 0);
        due("fault(1) of no byte", press.fault(1), -1);
        Checks.tell(press, "mode 0;mode 0;");
        due("fault(0)", press.fault(0), 1);
        Checks.tell(press, "mode 0;");
        due("fault(0) of a taken one", press.fault(0), 0);
        due("fault(1) of a taken one", press.fault(1), -1);
    }

    // ---- the text

    /** "PARTIES, at most 8"; "4 a 9th party (at the word)". */
    private static void eightParties() {
        String eight = Checks.parties(8);
        taken(Checks.parties(7), 0);
        taken(eight, 0);
        due("parties", Checks.told(eight).count(0), 8);
        faultyBehind(eight, "party i;", 4, 0);
        faultyBehind(eight, "party i", 4, 0);
        faultyBehind(eight, "party", 4, 0);
        faultyBehind(eight, "party;", 4, 0);
        faultyBehind(eight, "party a;", 4, 0);
        faultyBehind(eight, "party 5;", 4, 0);
        faultyBehind(eight, "party party;", 4, 0);
        faultyBehind(eight, "kind k;  party i;", 4, 9);
        faultyBehind(eight, "partyi;", 1, 0);
        faultyBehind(eight + "kind w;kind x;kind y;kind z;", "party i;", 4, 0);
    }

    /** "KINDS, at most 4"; "4 .. a 5th kind". */
    private static void fourKinds() {
        String four = "kind w;kind x;kind y;kind z;";
        taken("kind w;kind x;kind y;", 0);
        taken(four, 0);
        due("kinds", Checks.told(four).count(1), 4);
        faultyBehind(four, "kind v;", 4, 0);
        faultyBehind(four, "kind w;", 4, 0);
        faultyBehind(four, "kind", 4, 0);
        faultyBehind(four, "party a; kind ;", 4, 9);
        faultyBehind(four, "kinds;", 1, 0);
        taken(Checks.parties(8) + four, 0);
    }

    /** "TRADES, at most 40"; "4 .. a 41st trade". */
    private static void fortyTrades() {
        String forty = TWO + "trade a b 5 k;".repeat(40);
        taken(TWO + "trade a b 5 k;".repeat(39), 39);
        taken(forty, 40);
        faultyBehind(forty, "trade a b 5 k;", 4, 0);
        faultyBehind(forty, "trade a a 0 x;", 4, 0);
        faultyBehind(forty, "trade", 4, 0);
        faultyBehind(forty, "mode 1; trade;", 4, 8);
        faultyBehind(forty, "trades;", 1, 0);
        taken(forty + "keep 39;", 40);
        faultyBehind(forty, "keep 40;", 2, 5);
    }

    /** "each numbered as they come". */
    private static void numberedAsTheyCome() {
        SwapPress press = Checks.told("party z;kind y;party x;kind w;party v;"
            + "trade v z 1 w;party u;trade z v 2 y;trade u x 3 y;keep 1;");
        CHECKS.due("lines", Checks.lines(press), "v>z 1 w;z>v 2 y *;u>x 3 y;");
        int[][] want = {{2, 0, 1, 1, 0}, {0, 2, 2, 0, 1}, {3, 1, 3, 0, 0}};
        for (int trade = 0; trade < want.length; trade++) {
            for (int what = 0; what < 5; what++) {
                due("tradeOf(" + trade + ", " + what + ")", press.tradeOf(trade, what), want[trade][what]);
            }
        }
    }

    /** "NAMES (1 to 8 letters"; "a word of 9 letters and more at its first". */
    private static void oneToEightLetters() {
        for (int letters = 1; letters <= 8; letters++) {
            String name = "abcdefgh".substring(0, letters);
            taken("party " + name + ";", 0);
            taken("kind " + name + ";", 0);
        }
        String nine = "abcdefghi";
        String eight = "party abcdefgh;party b;kind bcdefghi;";
        for (String more : new String[] {nine, nine + "j", nine.repeat(20)}) {
            faulty(more + ";", 1, 0);
            faulty("party " + more + ";", 1, 6);
            faulty("kind  " + more + ";", 1, 6);
            faultyBehind(eight, "trade " + more + " b 5 bcdefghi;", 1, 6);
            faultyBehind(eight, "trade b " + more + " 5 bcdefghi;", 1, 8);
            faultyBehind(eight, "trade b abcdefgh 5 " + more + ";", 1, 19);
            faultyBehind(eight, "cap " + more + " b 5;", 1, 4);
            faultyBehind(eight, "cap b " + more + " 5;", 1, 6);
            faultyBehind(eight, "keep " + more + ";", 1, 5);
            faultyBehind(eight, "mode 1 " + more + ";", 1, 7);
        }
        taken(eight + "trade abcdefgh b 5 bcdefghi;trade b abcdefgh 5 bcdefghi;", 2);
        faultyBehind(eight, "party abcdefgh;", 3, 6);
        faultyBehind(eight, "trade abcdefg b 5 bcdefghi;", 3, 6);
    }

    /** All the room that names have: none may run into another. */
    private static void twelveNamesOfEightLetters() {
        StringBuilder kinds = new StringBuilder();
        StringBuilder parties = new StringBuilder();
        for (char letter = 'a'; letter <= 'd'; letter++) {
            kinds.append("kind ").append("z".repeat(7)).append(letter).append(';');
        }
        for (char letter = 'a'; letter <= 'h'; letter++) {
            parties.append("party ").append(letter).append("y".repeat(7)).append(';');
        }
        String trade = "trade hyyyyyyy ayyyyyyy 1 zzzzzzza;trade ayyyyyyy hyyyyyyy 2 zzzzzzzd;";
        String lines = "hyyyyyyy>ayyyyyyy 1 zzzzzzza;ayyyyyyy>hyyyyyyy 2 zzzzzzzd;";
        CHECKS.due("kinds first", Checks.lines(Checks.told(kinds + "" + parties + trade)), lines);
        CHECKS.due("parties first", Checks.lines(Checks.told(parties + "" + kinds + trade)), lines);
    }

    /** "letters a to z". */
    private static void lettersAreSmall() {
        taken("party az;party za;party mnz;", 0);
        taken("party abcdefgh;party ijklmnop;party qrstuvwx;party yz;", 0);
        for (char sign : new char[] {'A', 'Z', '`', '{', '@', '[', '_', '\u00e1', '\u00fa', '\u00ff'}) {
            faulty("party " + sign + ";", 1, 6);
            faulty("party a" + sign + ";", 1, 7);
            faulty("" + sign, 1, 0);
        }
    }

    /** "none of party kind trade keep cap mode". */
    private static void noneOfTheWords() {
        for (String word : WORDS) {
            faulty("party " + word + ";", 1, 6);
            faulty("kind " + word + ";", 1, 5);
            faultyBehind(TWO, "trade " + word + " b 5 k;", 1, 6);
            faultyBehind(TWO, "trade a " + word + " 5 k;", 1, 8);
            faultyBehind(TWO, "trade a b 5 " + word + ";", 1, 12);
            faultyBehind(TWO, "cap " + word + " b 5;", 1, 4);
            faultyBehind(TWO, "cap a " + word + " 5;", 1, 6);
            taken("party " + word + "s;kind x" + word + ";", 0);
            taken("party " + word.substring(1) + ";kind " + word.substring(0, word.length() - 1) + ";", 0);
            for (int i = 0; i < word.length(); i++) {
                String near = word.substring(0, i) + "z" + word.substring(i + 1);
                taken("party " + near + ";", 0);
                faulty(near + " q;", 1, 0);
            }
        }
    }

    /** "unlike, all together"; "3 a NAME that is told already (where a new one must stand)". */
    private static void unlikeAllTogether() {
        String all = Checks.parties(7) + "kind x;kind y;kind z;";
        for (char name : "abcdefgxyz".toCharArray()) {
            faultyBehind(all, "party " + name + ";", 3, 6);
            faultyBehind(all, "kind " + name + ";", 3, 5);
            taken(all + "party " + name + name + ";kind q" + name + ";", 0);
        }
    }

    /** "an AMOUNT (1 to 999999)"; "2 a number out of its bounds, of more than eight digits (at it". */
    private static void amounts() {
        for (String fits : new String[] {"1", "2", "999998", "999999", "00000001", "00999999", "0999999"}) {
            SwapPress press = Checks.told(TWO + "trade a b " + fits + " k;");
            due("amount " + fits, press.tradeOf(0, 2), Integer.parseInt(fits));
        }
        for (String out : new String[] {"0", "00", "00000000", "1000000", "01000000", "99999999", "000000001",
            "000000000", "999999999", "4294967297", "18446744073709551617", "1".repeat(100)}) {
            faultyBehind(TWO, "trade a b " + out + " k;", 2, 10);
            faultyBehind(TWO, "trade a b " + out, 2, 10);
            faultyBehind(TWO, "trade a b" + out + "x", 2, 9);
        }
    }

    /** "keep: a TRADE (told ahead)"; "2 .. (of keep: no such TRADE)". */
    private static void keptOnesAreToldAhead() {
        String three = TWO + "trade a b 5 k;trade b a 6 k;trade a b 7 k;";
        for (int trade = 0; trade < 3; trade++) {
            SwapPress press = Checks.told(three + "keep " + trade + ";");
            for (int other = 0; other < 3; other++) {
                due("kept", press.tradeOf(other, 4), other == trade ? 1 : 0);
            }
        }
        due("all kept", Checks.told(three + "keep 2;keep 0;keep 00000001;").count(3), 3);
        faultyBehind(three, "keep 3;", 2, 5);
        faultyBehind(three, "keep 99999999;", 2, 5);
        faultyBehind(three, "keep 000000001;", 2, 5);
        faultyBehind(three, "keep 4294967296;", 2, 5);
        faultyBehind(three, "keep 3;trade a b 1 k;", 2, 5);
        faultyBehind(TWO, "keep 0;", 2, 5);
        faultyBehind(TWO, "keep 0;trade a b 5 k;", 2, 5);
        faulty("keep 0;", 2, 5);
        taken(three + "keep 0;trade a b 1 k;keep 3;", 4);
    }

    /** "KEPT (once each)"; "5 .. a TRADE KEPT again (at its number)". */
    private static void keptOnce() {
        String kept = TWO + "trade a b 5 k;trade b a 6 k;keep 1;";
        taken(kept + "keep 0;", 2);
        faultyBehind(kept, "keep 1;", 5, 5);
        faultyBehind(kept, "keep 1", 5, 5);
        faultyBehind(kept, "keep 00000001;", 5, 5);
        faultyBehind(kept, "keep 000000001;", 2, 5);
        faultyBehind(kept, "keep 0;keep1;", 5, 11);
        faultyBehind(kept, "trade a b 1 k; keep  1;", 5, 21);
    }

    /** "CAP of an ordered couple of PARTIES (0 to 99999999; 99999999 without". */
    private static void capsInBounds() {
        for (String fits : new String[] {"0", "1", "99999998", "99999999", "00000000", "00000007"}) {
            SwapPress press = Checks.told(TWO + "mode 2;cap a b " + fits + ";");
            due("cap " + fits, press.bound(0, 1, 0), Integer.parseInt(fits));
            due("the other way", press.bound(1, 0, 0), 99999999);
        }
        for (String out : new String[] {"100000000", "000000000", "999999999", "4294967296", "9".repeat(50)}) {
            faultyBehind(TWO, "cap a b " + out + ";", 2, 8);
            faultyBehind(TWO, "cap a b" + out, 2, 7);
        }
        faultyBehind(TWO, "cap a b -1;", 1, 8);
        faultyBehind(TWO, "cap a a 1;", 5, 6);
        faultyBehind(TWO, "cap b  b", 5, 7);
    }

    /** "the latest counts". */
    private static void latestCapCounts() {
        SwapPress press = Checks.told(TWO + "cap a b 5;cap b a 6;cap a b 7;mode 2;");
        due("the latest", press.bound(0, 1, 0), 7);
        due("the other", press.bound(1, 0, 0), 6);
        due("back to none", Checks.told(TWO + "cap a b 5;cap a b 99999999;mode 2;").bound(0, 1, 0), 99999999);
    }

    /** "mode: 0 to 3 (0 without". */
    private static void modesInBounds() {
        due("without", Checks.told(TWO).count(4), 0);
        for (int mode = 0; mode <= 3; mode++) {
            due("mode", Checks.told("mode " + mode + ";").count(4), mode);
            due("mode", Checks.told(TWO + "mode0000000" + mode + ";").count(4), mode);
        }
        for (String out : new String[] {"4", "00000004", "10", "99999999", "000000003", "4294967297"}) {
            faulty("mode " + out + ";", 2, 5);
            faulty("mode" + out, 2, 4);
        }
        faulty("mode -1;", 1, 5);
    }

    /** "once)"; "mode a second time, at that word". */
    private static void modeOnce() {
        faulty("mode 0;mode 0;", 1, 7);
        faulty("mode 3;" + TWO + "  mode 3;", 1, 32);
        faulty("mode 1;mode 4;", 1, 7);
        faulty("mode 1;mode", 1, 7);
        faulty("mode 4;mode 1;", 2, 5);
        SwapPress press = Checks.told("mode 1;");
        due("once in each text", Checks.tell(press, "mode 2;"), 0);
        due("mode", press.count(4), 2);
        due("a fault", Checks.tell(press, "mode 3;x"), -31);
        due("once behind a fault", Checks.tell(press, "mode 0;"), 0);
        due("mode", press.count(4), 0);
    }

    /** "Numbers (digits, as long as they go on)". */
    private static void digits() {
        SwapPress press = Checks.told(TWO + "trade a b 102938 k;trade a b 475600 k;trade a b09876k;");
        due("digits", press.tradeOf(0, 2), 102938);
        due("digits", press.tradeOf(1, 2), 475600);
        due("digits", press.tradeOf(2, 2), 9876);
        for (char sign : new char[] {'/', ':', '.', ',', '-', '+', '\u00b2', '\u00b9'}) {
            faultyBehind(TWO, "trade a b 5" + sign + " k;", 1, 11);
            faultyBehind(TWO, "trade a b " + sign + "5 k;", 1, 10);
        }
        faultyBehind(TWO, "trade a b 5 5 k;", 1, 12);
        faultyBehind(TWO, "trade a b 5a k;", 3, 11);
        faultyBehind(TWO, "mode 1 1;", 1, 7);
    }

    /** "blanks (32) may stand between all". */
    private static void blanks() {
        String[] tokens = {"party", "a", ";", "party", "b", ";", "kind", "k", ";", "trade", "a", "b", "5", "k", ";",
            "keep", "0", ";", "cap", "a", "b", "4", ";", "mode", "2", ";"};
        for (String between : new String[] {" ", "  ", " ".repeat(20)}) {
            taken(String.join(between, tokens), 1);
            taken(between + String.join(between, tokens) + between, 1);
        }
        taken("party a;party b;kind k;trade a b5k;keep0;cap a b4;mode2;", 1);
        for (char sign : new char[] {0, '\t', '\n', '\r', 11, 12, 31, 33, 127, 128, 160, 255}) {
            faulty("party" + sign + "a;", 1, 5);
            faulty("party a" + sign + ";", 1, 7);
            faulty("party a;" + sign, 1, 8);
            faulty(sign + "party a;", 1, 0);
        }
    }

    /** "one at least between two words, two numbers". */
    private static void oneBlankBetween() {
        faulty("partya;", 1, 0);
        faulty("kindk;", 1, 0);
        faultyBehind(TWO, "tradea b 5 k;", 1, 0);
        faultyBehind(TWO, "trade ab 5 k;", 3, 6);
        faultyBehind(TWO, "capa b 5;", 1, 0);
        faultyBehind(TWO, "cap ab 5;", 3, 4);
        faulty("party a party b;", 1, 8);
        faulty("mode 12;", 2, 5);
        faulty("mode 1 2;", 1, 7);
        taken("mode1;party a;kind k;", 0);
    }

    /** "other bytes one by one". */
    private static void otherBytes() {
        taken("party a;party b;", 0);
        faulty("party a;;party b;", 1, 8);
        faulty(";", 1, 0);
        faulty(" ;", 1, 1);
        faulty("party;a;", 1, 5);
        faulty("party a,", 1, 7);
        faulty("party a:", 1, 7);
        for (int sign = 0; sign < 256; sign++) {
            boolean small = sign >= 'a' && sign <= 'z';
            boolean digit = sign >= '0' && sign <= '9';
            if (!small && !digit && sign != ' ' && sign != ';') {
                faulty("party a;" + (char) sign + (char) sign + "party b;", 1, 8);
            }
        }
    }

    /** What stands at a place, what must stand there, and the fault of it: 0 none, so it goes on. */
    private static void everyTokenAtEveryPlace() {
        String[] tokens = {"", ";", "5", "123456789", "a", "k", "x", "abcdefghi", "A", "-", "\0", "\u00e9",
            "party", "kind", "trade", "keep", "cap", "mode"};
        int[] fresh = {1, 1, 1, 1, 3, 3, 0, 1, 1, 1, 1, 1, 1, 1, 1, 1, 1, 1};
        int[] party = {1, 1, 1, 1, 0, 3, 3, 1, 1, 1, 1, 1, 1, 1, 1, 1, 1, 1};
        int[] itself = {1, 1, 1, 1, 5, 3, 3, 1, 1, 1, 1, 1, 1, 1, 1, 1, 1, 1};
        int[] number = {1, 1, 0, 2, 1, 1, 1, 1, 1, 1, 1, 1, 1, 1, 1, 1, 1, 1};
        int[] kind = {1, 1, 1, 1, 3, 0, 3, 1, 1, 1, 1, 1, 1, 1, 1, 1, 1, 1};
        int[] semicolon = {1, 0, 1, 1, 1, 1, 1, 1, 1, 1, 1, 1, 1, 1, 1, 1, 1, 1};
        int[] line = {0, 1, 1, 1, 1, 1, 1, 1, 1, 1, 1, 1, 0, 0, 0, 0, 0, 0};
        String six = TWO + "trade a b 1 k;".repeat(6);
        atPlace(six, tokens, line);
        atPlace(six + "party ", tokens, fresh);
        atPlace(six + "party x ", tokens, semicolon);
        atPlace(six + "kind ", tokens, fresh);
        atPlace(six + "kind x ", tokens, semicolon);
        atPlace(six + "trade ", tokens, party);
        atPlace(six + "trade b ", tokens, party);
        atPlace(six + "trade a ", tokens, itself);
        atPlace(six + "trade a b ", tokens, number);
        atPlace(six + "trade a b 5 ", tokens, kind);
        atPlace(six + "trade a b 5 k ", tokens, semicolon);
        atPlace(six + "keep ", tokens, number);
        atPlace(six + "keep 5 ", tokens, semicolon);
        atPlace(six + "cap ", tokens, party);
        atPlace(six + "cap b ", tokens, party);
        atPlace(six + "cap a ", tokens, itself);
        atPlace(six + "cap a b ", tokens, number);
        atPlace(six + "cap a b 5 ", tokens, semicolon);
        int[] mode = number.clone();
        mode[2] = 2;
        atPlace(six + "mode ", tokens, mode);
        atPlace(six + "mode 3 ", tokens, semicolon);
    }

    private static void atPlace(String ahead, String[] tokens, int[] faults) {
        for (int i = 0; i < tokens.length; i++) {
            if (faults[i] != 0) {
                faulty(ahead + tokens[i], faults[i], ahead.length());
                if (!tokens[i].isEmpty()) {
                    faulty(ahead + tokens[i] + " ;", faults[i], ahead.length());
                }
            } else {
                SwapPress press = new SwapPress();
                Checks.tell(press, ahead + tokens[i]);
                int end = (ahead + tokens[i]).length();
                due("place behind " + ahead + tokens[i], press.fault(1), press.fault(0) == 0 ? -1 : end);
            }
        }
    }

    /** "1 what can't stand there (.. the end: how many bytes there are": a text cut off anywhere. */
    private static void everyEnd() {
        String text = "party a;kind k; party b ;trade a b 12 k;trade b a 7 k ; keep 1;cap a b 90;mode 2;  ";
        SwapPress press = new SwapPress();
        for (int n = 0; n <= text.length(); n++) {
            String part = text.substring(0, n);
            int line = part.lastIndexOf(';') + 1;
            String rest = part.substring(line);
            String word = rest.trim();
            boolean whole = word.isEmpty();
            boolean cutWord = !whole && !rest.stripLeading().contains(" ") && !java.util.List.of(WORDS).contains(word);
            due("tell of " + part, Checks.tell(press, part), whole ? press.count(2) : -31);
            due("its place", press.fault(1), whole ? -1 : cutWord ? part.indexOf(word, line) : n);
        }
    }

    /** "FAULTS, the first along THE TEXT". */
    private static void firstFaultAlongTheText() {
        String ahead = Checks.parties(8) + "kind k;trade a b 5 k;keep 0;";
        String[] lines = {"mode x;", "mode 9;", "trade a x 5 k;", "party i;", "trade a a 5 k;", "keep 0;"};
        int[] faults = {1, 2, 3, 4, 5, 5};
        int[] places = {5, 5, 8, 0, 8, 5};
        for (int first = 0; first < lines.length; first++) {
            faultyBehind(ahead, lines[first], faults[first], places[first]);
            for (String later : lines) {
                faultyBehind(ahead, lines[first] + later, faults[first], places[first]);
                faultyBehind(ahead, "trade b c 4 k;" + lines[first] + later, faults[first], 14 + places[first]);
            }
        }
        faultyBehind(ahead, "trade x y 0 z", 3, 6);
        faultyBehind(ahead, "trade a y 0 z", 3, 8);
        faultyBehind(ahead, "trade a a 0 z", 5, 8);
        faultyBehind(ahead, "trade a b 0 z", 2, 10);
        faultyBehind(ahead, "trade a b 1 z", 3, 12);
        faultyBehind(ahead, "trade a b 1 k", 1, 13);
        faultyBehind(ahead, "cap x x 100000000", 3, 4);
        faultyBehind(ahead, "cap a a 100000000", 5, 6);
        faultyBehind(ahead, "cap a b 100000000", 2, 8);
        faultyBehind(ahead, "cap a b 10000000", 1, 16);
    }

    /** "(of one place the least)". */
    private static void leastFaultOfOnePlace() {
        String ahead = Checks.parties(8) + "kind k;";
        faultyBehind(ahead, "trade a abcdefghi 5 k;", 1, 8);
        faultyBehind(ahead, "trade a party 5 k;", 1, 8);
        faultyBehind(ahead, "kind party i;", 1, 5);
        faultyBehind(ahead, "kind mode;", 1, 5);
        faultyBehind(ahead, "kind abcdefghi;", 1, 5);
        faultyBehind(ahead + "trade a b 5 k;keep 0;", "keep 000000000;", 2, 5);
    }

    /** "With a FAULT all stays"; "-30 less the FAULT: a text (THE TAPE is empty then; nothing else changes)". */
    private static void withAFaultAllStays() {
        String[] texts = {"party x;kind y;trade", "party x;mode 3;mode 3;", "party x;mode 9;", "cap a b 3;",
            "party x;party x;", Checks.parties(8) + "party i;", "party x;party y;cap x y 7;cap y y 8;",
            "party x;party y;kind z;trade x y 9 z;keep 0;keep 0;"};
        int[] codes = {-31, -31, -32, -33, -33, -34, -35, -35};
        for (int i = 0; i < texts.length; i++) {
            String text = texts[i];
            int code = codes[i];
            Whole.same(CHECKS, "a faulty text, " + text, press -> {
                stateWithActs(press);
                due("tell of " + text, Checks.tell(press, text), code);
                due("tape", press.count(6), 0);
                Checks.tell(press, "?");
            }, press -> {
                stateWithActs(press);
                Checks.tell(press, "?");
            });
        }
    }

    private static void stateWithActs(SwapPress press) {
        Checks.tell(press, TWO + "party c;trade a b 7 k;trade b c 5 k;keep 1;cap a b 4;mode 2;");
        press.trade(2, 0, 3, 0);
        press.mode(1);
        press.cap(2, 1, 8);
        press.least(0);
    }

    /** "THE TEXT is in place of all that was told ahead"; "tell() that is taken forgets them". */
    private static void textIsInPlaceOfAll() {
        for (String text : new String[] {"", "party c;", TWO + "party c;trade b a 1 k;", "kind k;mode 0;",
            "mode 3;party b;party a;kind k;cap a b 6;trade a b 2 k;"}) {
            Whole.same(CHECKS, "told anew, " + text, press -> {
                stateWithActs(press);
                Checks.tell(press, text);
            }, press -> Checks.tell(press, text));
            Whole.same(CHECKS, "told anew behind two, " + text, press -> {
                stateWithActs(press);
                stateWithActs(press);
                Checks.tell(press, text);
            }, press -> Checks.tell(press, text));
            Whole.same(CHECKS, "told anew behind a faulty one, " + text, press -> {
                stateWithActs(press);
                Checks.tell(press, "mode 3;" + TWO + "trade b a 8 k;keep 0;cap a b 1;cap b a 2;?");
                Checks.tell(press, text);
            }, press -> Checks.tell(press, text));
        }
    }

    /** "THE TEXT: { LINE ; }": none is a text, too. */
    private static void emptyTexts() {
        taken("", 0);
        taken(" ", 0);
        taken(" ".repeat(900), 0);
        SwapPress press = new SwapPress();
        stateWithActs(press);
        due("tell(0)", press.tell(0), 0);
        for (int what = 0; what <= 6; what++) {
            due("count(" + what + ") then", press.count(what), 0);
        }
        due("undo() then", press.undo(), -5);
        due("cap() then", press.cap(0, 1, 5), -2);
    }
}

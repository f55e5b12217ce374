/** Promises 1 to 4: a new object, feed, tell, fault. */
public final class TextTest {
    private static final String TWO = "party a;party b;kind k;";
    private static final Checks CHECKS = new Checks("TextTest");

    public static void main(String[] args) {
        newObject();
        feeding();
        telling();
        takenTexts();
        outOfPlace();
        outOfBounds();
        wrongNames();
        tooMany();
        withItself();
        CHECKS.end();
    }

    private static void due(String call, long got, long want) {
        CHECKS.due(call, got, want);
    }

    private static void newObject() {
        SwapPress press = new SwapPress();
        for (int what = 0; what <= 6; what++) {
            due("count(" + what + ") at first", press.count(what), 0);
        }
        due("fault(0) at first", press.fault(0), 0);
        due("fault(1) at first", press.fault(1), -1);
        due("fault(2) at first", press.fault(2), -1);
        due("fault(-1) at first", press.fault(-1), -1);
        due("all() at first", press.all(), 0);
        due("least(0) at first", press.least(0), -2);
        due("tradeOf(0, 0) at first", press.tradeOf(0, 0), -2);
    }

    private static void feeding() {
        SwapPress press = new SwapPress();
        for (int i = 1; i <= 45; i++) {
            due("feed", press.feed(0, 0, 0, 0, 0), 20 * i);
        }
        due("the 46th feed", press.feed(0, 0, 0, 0, 0), -4);
        due("bytes on the tape", press.count(6), 900);
        due("tell(901)", press.tell(901), -3);
        due("bytes then", press.count(6), 900);
        due("tell(900) of zeros", press.tell(900), -31);
        due("bytes behind it", press.count(6), 0);
        due("feed again", press.feed(-1, -1, -1, -1, -1), 20);
        due("tell(20) of high bytes", press.tell(20), -31);
        due("place of high bytes", press.fault(1), 0);
        String long900 = (TWO + "trade a b 7 k;" + " ".repeat(900)).substring(0, 898) + "  ";
        due("feed of 900", Checks.feedAll(press, Checks.bytes(long900)), 900);
        due("tell(900)", press.tell(900), 1);
    }

    private static void telling() {
        SwapPress press = new SwapPress();
        due("tell(-1)", press.tell(-1), -3);
        due("tell(1)", press.tell(1), -3);
        due("tell(0)", press.tell(0), 0);
        due("a text", Checks.tell(press, TWO + "trade a b 5 k;trade b a 6 k;keep 1;cap a b 9;mode 2;"), 2);
        due("parties", press.count(0), 2);
        due("kinds", press.count(1), 1);
        due("kept", press.count(3), 1);
        due("mode", press.count(4), 2);
        due("fault(0)", press.fault(0), 0);
        due("fault(1)", press.fault(1), -1);
        due("bound by cap", press.bound(0, 1, 0), 9);
        due("bound by no cap", press.bound(1, 0, 0), 99999999);
        press.mode(1);
        due("acts", press.count(5), 1);
        due("a faulty text", Checks.tell(press, "party a;party a;"), -33);
        due("fault(0) of it", press.fault(0), 3);
        due("fault(1) of it", press.fault(1), 14);
        due("bytes on the tape", press.count(6), 0);
        due("parties stay", press.count(0), 2);
        due("trades stay", press.count(2), 2);
        due("mode stays", press.count(4), 1);
        due("acts stay", press.count(5), 1);
        CHECKS.due("lines stay", Checks.lines(press), "a>b 5 k;b>a 6 k *;");
        Checks.feedAll(press, Checks.bytes("party c;"));
        due("tell beyond the tape", press.tell(21), -3);
        due("the fault stays", press.fault(0), 3);
        due("its place stays", press.fault(1), 14);
        due("the tape stays", press.count(6), 20);
        due("tell of the first 8", press.tell(8), 0);
        due("the tape is empty", press.count(6), 0);
        due("parties are anew", press.count(0), 1);
        due("kinds are anew", press.count(1), 0);
        due("trades are anew", press.count(2), 0);
        due("the mode is anew", press.count(4), 0);
        due("acts are forgotten", press.count(5), 0);
        due("undo()", press.undo(), -5);
        due("fault(1) behind it", press.fault(1), -1);
        due("caps are anew", Checks.tell(press, TWO + "mode 2;"), 0);
        due("cap without", press.bound(0, 1, 0), 99999999);
        due("tell(0) takes all away", press.tell(0), 0);
        due("no parties", press.count(0), 0);
        due("no mode", press.count(4), 0);
    }

    private static void takenTexts() {
        taken("", 0);
        taken("    ", 0);
        taken("party a ; party b;kind k;", 0);
        taken("  party  a;party b  ;kind k;trade a b5k;", 1);
        taken(TWO + "trade a b 00000005 k;keep0;mode3;cap a b00000000;", 1);
        taken(TWO + "trade a b 999999 k;trade a b 1 k;keep 1;keep 0;", 2);
        taken(TWO + "cap a b 5;cap a b 99999999;cap b a 0;", 0);
        taken("party abcdefgh;party parties;party kinds;kind modes;kind caps;", 0);
        taken("party a;kind b;party c;kind d;trade c a 1 b;trade a c 1 d;", 2);
        SwapPress press = Checks.told(TWO + "cap a b 5;cap a b 8;mode 2;");
        due("the latest cap", press.bound(0, 1, 0), 8);
    }

    private static void outOfPlace() {
        faulty("a", 1, 0);
        faulty(";", 1, 0);
        faulty("party a;;", 1, 8);
        faulty("5", 1, 0);
        faulty("party", 1, 5);
        faulty("party   ", 1, 8);
        faulty("party a", 1, 7);
        faulty("party a  ", 1, 9);
        faulty("partya;", 1, 0);
        faulty("party 5;", 1, 6);
        faulty("party 1234567890;", 1, 6);
        faulty("party A;", 1, 6);
        faulty("party a\t;", 1, 7);
        faulty("party a\n;", 1, 7);
        faulty("party a,party b;", 1, 7);
        faulty("party a b;", 1, 8);
        faulty("party a party;", 1, 8);
        faulty("party abcdefghi;", 1, 6);
        faulty("abcdefghijk a;", 1, 0);
        for (String word : new String[] {"party", "kind", "trade", "keep", "cap", "mode"}) {
            faulty("party " + word + ";", 1, 6);
            faulty("kind " + word + ";", 1, 5);
            faulty(TWO + "trade " + word + " b 5 k;", 1, 29);
            faulty(TWO + "trade a " + word + " 5 k;", 1, 31);
            faulty(TWO + "trade a b 5 " + word + ";", 1, 35);
        }
        faulty(TWO + "trade a b k;", 1, 33);
        faulty(TWO + "trade a b -5 k;", 1, 33);
        faulty(TWO + "trade a b 5 5 k;", 1, 35);
        faulty(TWO + "trade a abcdefghi 5 k;", 1, 31);
        faulty(TWO + "trade a b 5 abcdefghi;", 1, 35);
        faulty(TWO + "trade a;", 1, 30);
        faulty(TWO + "keep a;", 1, 28);
        faulty(TWO + "cap a b;", 1, 30);
        faulty(TWO + "mode;", 1, 27);
        faulty("mode 1;mode 1;", 1, 7);
        faulty("mode 1;mode 9;", 1, 7);
        faulty("mode 1;mode", 1, 7);
        faulty("mode 1", 1, 6);
        faulty("mode 1 2;", 1, 7);
    }

    private static void outOfBounds() {
        faulty(TWO + "trade a b 0 k;", 2, 33);
        faulty(TWO + "trade a b 1000000 k;", 2, 33);
        faulty(TWO + "trade a b 000000005 k;", 2, 33);
        faulty(TWO + "trade a b 4294967297 k;", 2, 33);
        faulty(TWO + "trade a b 0 x;", 2, 33);
        faulty(TWO + "keep 0;trade a b 5 k;", 2, 28);
        faulty(TWO + "trade a b 5 k;keep 1;", 2, 42);
        faulty(TWO + "trade a b 5 k;keep 000000000;", 2, 42);
        faulty(TWO + "cap a b 100000000;", 2, 31);
        faulty(TWO + "cap a b 000000001;", 2, 31);
        faulty("mode 4;", 2, 5);
        faulty("mode 4", 2, 5);
        faulty("mode 000000001;", 2, 5);
    }

    private static void wrongNames() {
        faulty("party a;party a;", 3, 14);
        faulty("party a;kind a;", 3, 13);
        faulty("kind a;party a;", 3, 13);
        faulty("kind a;kind a;", 3, 12);
        faulty("kind a;kind a", 3, 12);
        faulty(TWO + "trade x b 5 k;", 3, 29);
        faulty(TWO + "trade a x 5 k;", 3, 31);
        faulty(TWO + "trade k b 5 k;", 3, 29);
        faulty(TWO + "trade a k 5 k;", 3, 31);
        faulty(TWO + "trade x x 5 k;", 3, 29);
        faulty(TWO + "trade a b 5 a;", 3, 35);
        faulty(TWO + "trade a b 5 x;", 3, 35);
        faulty(TWO + "cap a k 5;", 3, 29);
        faulty(TWO + "cap x a 5;", 3, 27);
        faulty("party a;trade a b 5 k;party b;kind k;", 3, 16);
        faulty("party aa;kind k;party ab;trade a ab 5 k;", 3, 31);
    }

    private static void tooMany() {
        String parties = Checks.parties(8);
        taken(parties, 0);
        faulty(parties + "party i;", 4, 64);
        faulty(parties + "  party", 4, 66);
        faulty(parties + "party a;", 4, 64);
        String kinds = "kind w;kind x;kind y;kind z;";
        taken(parties + kinds, 0);
        faulty(kinds + "kind v;", 4, 28);
        faulty(kinds + "kind 5;", 4, 28);
        String forty = TWO + "trade a b 5 k;".repeat(40);
        taken(forty, 40);
        faulty(forty + "trade a b 5 k;", 4, forty.length());
        faulty(forty + "trade;", 4, forty.length());
    }

    private static void withItself() {
        faulty(TWO + "trade a a 5 k;", 5, 31);
        faulty(TWO + "trade a a 0 k;", 5, 31);
        faulty(TWO + "trade b b;", 5, 31);
        faulty(TWO + "cap b b 5;", 5, 29);
        faulty(TWO + "trade a b 5 k;keep 0;keep 0;", 5, 49);
        faulty(TWO + "trade a b 5 k;keep 0;keep 00", 5, 49);
    }

    private static void taken(String text, int trades) {
        SwapPress press = new SwapPress();
        due("tell of " + text, Checks.tell(press, text), trades);
        due("fault(0) of " + text, press.fault(0), 0);
        due("fault(1) of " + text, press.fault(1), -1);
        due("trades of " + text, press.count(2), trades);
    }

    private static void faulty(String text, int fault, int place) {
        SwapPress press = Checks.told("party q;");
        due("tell of " + text, Checks.tell(press, text), -30 - fault);
        due("fault(0) of " + text, press.fault(0), fault);
        due("fault(1) of " + text, press.fault(1), place);
        due("parties behind " + text, press.count(0), 1);
        due("tape behind " + text, press.count(6), 0);
    }
}

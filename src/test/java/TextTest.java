/** Promises 1 to 3: a new object, feed, text with its faults. */
public final class TextTest {
    private static final Checks CHECKS = new Checks();

    public static void main(String[] args) {
        newObject();
        feed();
        textTakesTheTape();
        tokens();
        notATextFaults();
        nameFaults();
        numberFaults();
        tooManyFaults();
        leastPlaceIsTold();
        faultLeavesAllElse();
        newTextForgets();
        CHECKS.finish();
    }

    private static void newObject() {
        ClosedUntil x = new ClosedUntil();
        for (int what = 0; what < 8; what++) {
            CHECKS.due("new: count(" + what + ")", x.count(what), 0);
        }
        CHECKS.due("new: piece(0, 0)", x.piece(0, 0), -2);
        CHECKS.due("new: person(0, 0)", x.person(0, 0), -2);
        CHECKS.due("new: closure(0, 0)", x.closure(0, 0), -2);
        CHECKS.due("new: undo()", x.undo(), -1);
        CHECKS.due("new: keep(0, true)", x.keep(0, true), false);
        CHECKS.due("new: open(0, 0)", x.open(0, 0), 0);
        CHECKS.due("new: next(-1, 0)", x.next(-1, 0), -1);
        CHECKS.due("new: listed(0, 0)", x.listed(0, 0), -1);
        CHECKS.due("new: best(0, 0, 3)", x.best(0, 0, 3), 0);
        CHECKS.due("new: openWithout(0, 0, 0)", x.openWithout(0, 0, 0), 0);
        CHECKS.due("new: openWithout(0, 0, 1)", x.openWithout(0, 0, 1), -1);
    }

    private static void feed() {
        ClosedUntil x = new ClosedUntil();
        int blanks = 0x20202020;
        for (int i = 1; i <= 50; i++) {
            CHECKS.due("feed " + i, x.feed(blanks, blanks, blanks, blanks, blanks), 20 * i);
        }
        CHECKS.due("feed 51", x.feed(blanks, blanks, blanks, blanks, blanks), -1);
        CHECKS.due("count(7), full", x.count(7), 1000);
        CHECKS.due("text(1001)", x.text(1001), -1);
        CHECKS.due("text(-1)", x.text(-1), -1);
        CHECKS.due("text, least", x.text(Integer.MIN_VALUE), -1);
        CHECKS.due("text, most", x.text(Integer.MAX_VALUE), -1);
        CHECKS.due("count(7) stays", x.count(7), 1000);
        CHECKS.due("text(1000) of blanks", x.text(1000), 0);
        CHECKS.due("count(7), taken", x.count(7), 0);
        // "person a;person b;  ": of each number the highest byte first
        CHECKS.due("feed", x.feed(0x70657273, 0x6f6e2061, 0x3b706572, 0x736f6e20, 0x623b2020), 20);
        CHECKS.due("text(18)", x.text(18), 2);
        CHECKS.due("count(1)", x.count(1), 2);
    }

    private static void textTakesTheTape() {
        ClosedUntil x = new ClosedUntil();
        Checks.feedBytes(x, "person a;person b;$$".getBytes());
        CHECKS.due("text(9), the rest is gone", x.text(9), 1);
        CHECKS.due("count(7)", x.count(7), 0);
        CHECKS.due("count(1)", x.count(1), 1);
        CHECKS.due("text(1), nothing there", x.text(1), -1);
        CHECKS.due("count(1)", x.count(1), 1);
        CHECKS.due("text(0)", x.text(0), 0);
        CHECKS.due("count(1), an empty text", x.count(1), 0);
        Checks.feedBytes(x, "person a;person a;$$".getBytes());
        CHECKS.due("text(18)", x.text(18), Checks.fault(16, 2));
        CHECKS.due("count(7), taken with a fault", x.count(7), 0);
        Checks.feedBytes(x, "person abcd;".getBytes());
        CHECKS.due("text(9), cut in a WORD", x.text(9), Checks.fault(9, 1));
        Checks.feedBytes(x, "deposit ab 1900 1 12;".getBytes());
        CHECKS.due("text(19), cut in a NUMBER", x.text(19), Checks.fault(19, 1));
        Checks.feedBytes(x, "person abcdefghijk;".getBytes());
        CHECKS.due("text(15), cut behind eight letters", x.text(15), Checks.fault(15, 1));
    }

    private static void dueText(String text, int want) {
        CHECKS.due("text \"" + text + "\"", Checks.tell(new ClosedUntil(), text), want);
    }

    private static void dueFault(String text, int place, int kind) {
        dueText(text, Checks.fault(place, kind));
    }

    private static void tokens() {
        dueText("", 0);
        dueText(" \n ", 0);
        dueText("person a;", 1);
        dueText("person\na\n;\n", 1);
        dueText("person a born1900 1 1died1950 1 1;", 1);
        dueText("person abcdefgh;person zz;person z;", 3);
        dueFault("person a;person aa;person b;person aa;", 35, 2);
        dueFault("person az;person az;", 17, 2);
        dueFault("person abcdefghi;", 7, 1);
        dueFault("personabc d;", 0, 1);
        dueFault("personab d;", 0, 1);
        dueText("person a born 00001900 00000001 01;", 1);
        dueFault("person a born 000001900 1 1;", 14, 1);
        dueFault("person a born 1900 1 000000001;", 21, 1);
        dueFault("person A;", 7, 1);
        dueFault("person a\t;", 8, 1);
        dueFault("person a\r;", 8, 1);
        dueFault("person a,", 8, 1);
        dueFault("person a" + (char) 233 + ";", 8, 1);
        dueFault("person a" + (char) 0 + ";", 8, 1);
        dueFault("person aB;", 8, 1);
        dueFault("person a`;", 8, 1);
        dueFault("person a{;", 8, 1);
        dueFault("deposit a 1900/1 1;", 14, 1);
        dueFault("deposit a 1900 1: 1;", 16, 1);
    }

    private static void notATextFaults() {
        dueFault("person", 6, 1);
        dueFault("person  \n", 9, 1);
        dueFault("person a", 8, 1);
        dueFault(";", 0, 1);
        dueFault("person a;;", 9, 1);
        dueFault("a;", 0, 1);
        dueFault("12;", 0, 1);
        dueFault("born a;", 0, 1);
        dueFault("person 12;", 7, 1);
        dueFault("person ;", 7, 1);
        String[] keywords = {"person", "born", "died", "deposit", "piece", "in", "of", "from", "close", "content",
            "until", "whole"};
        for (String word : keywords) {
            dueFault("person " + word + ";", 7, 1);
            dueFault("deposit " + word + " 1900 1 1;", 8, 1);
            dueFault("piece " + word + " 1900 1 1;", 6, 1);
            dueFault("close content " + word + " 1;", 14, 1);
        }
        dueFault("person a died 1900 1 1 born 1800 1 1;", 23, 1);
        dueFault("person a born 1900 1 1 born 1900 1 1;", 23, 1);
        dueFault("person a born 1900 1;", 20, 1);
        dueFault("person a 1900 1 1;", 9, 1);
        dueFault("deposit a;", 9, 1);
        dueFault("deposit a 1900 1 1 whole;", 19, 1);
        dueFault("piece a in 1900 1 1;", 11, 1);
        dueFault("piece a;", 7, 1);
        dueFault("deposit d 1900 1 1;piece a 1900 1 1 from d of d;", 43, 1);
        dueFault("deposit d 1900 1 1;piece a 1900 1 1 from d from d;", 43, 1);
        dueFault("piece a 1900 1 1 in a;", 17, 1);
        dueFault("close a 1;", 6, 1);
        dueFault("close piece a 1;", 6, 1);
        dueFault("close;", 5, 1);
        dueFault("piece a 1900 1 1;close content a;", 32, 1);
        dueFault("piece a 1900 1 1;close content a 1 2;", 35, 1);
        dueFault("piece a 1900 1 1;close content a 1 whole whole;", 41, 1);
        dueFault("piece a 1900 1 1;close until a 1900 1 1 whole;", 40, 1);
        dueFault("person a;close person a 1 2;", 27, 1);
        dueFault("person a;close person a 1 2 whole;", 28, 1);
        dueFault("person a;close person a 1 2 3 4;", 30, 1);
        dueFault("deposit a 1900 1 1;close deposit a whole;", 35, 1);
    }

    private static void nameFaults() {
        dueFault("person a;person a;", 16, 2);
        dueFault("person a;deposit a 1900 1 1;", 17, 2);
        dueFault("person a;piece a 1900 1 1;", 15, 2);
        dueFault("deposit a 1900 1 1;person a;", 26, 2);
        dueFault("piece a 1900 1 1;deposit a 1900 1 1;", 25, 2);
        dueFault("person a;piece b 1900 1 1 of a of a;", 34, 2);
        dueFault("person a;person b;piece c 1900 1 1 of a of b of a;", 48, 2);
        dueFault("piece b in b 1900 1 1;", 11, 3);
        dueFault("piece b 1900 1 1 of b;", 20, 3);
        dueFault("piece b 1900 1 1 from b;", 22, 3);
        dueFault("piece b in c 1900 1 1;piece c 1900 1 1;", 11, 3);
        dueFault("person a;piece b in a 1900 1 1;", 20, 3);
        dueFault("piece a 1900 1 1;piece b 1900 1 1 of a;", 37, 3);
        dueFault("person a;piece b 1900 1 1 from a;", 31, 3);
        dueFault("person a;close content a 1;", 23, 3);
        dueFault("person a;close until a 1900 1 1;", 21, 3);
        dueFault("person a;close deposit a 1;", 23, 3);
        dueFault("piece a 1900 1 1;close person a 1 1 1;", 30, 3);
        dueFault("close content a 1;piece a 1900 1 1;", 14, 3);
    }

    private static void numberFaults() {
        dueFault("deposit a 1699 1 1;", 10, 4);
        dueFault("deposit a 2300 1 1;", 10, 4);
        dueText("deposit a 1700 1 1;deposit b 2299 12 31;", 2);
        dueFault("deposit a 1900 0 1;", 15, 4);
        dueFault("deposit a 1900 13 1;", 15, 4);
        dueFault("deposit a 1900 1 0;", 17, 4);
        dueFault("deposit a 1900 1 32;", 17, 4);
        dueFault("deposit a 1900 2 29;", 17, 4);
        dueText("deposit a 2000 2 29;", 1);
        dueFault("deposit a 99999999 1 1;", 10, 4);
        dueText("person a born 1900 1 2 died 1900 1 2;", 1);
        dueFault("person a born 1900 1 2 died 1900 1 1;", 28, 4);
        dueFault("person a born 1900 1 2 died 1899 13 1;", 33, 4);
        dueFault("person a born 1900 1 2 died 1899 12 ;", 36, 1);
        dueFault("person a born 1900 1 2 died 1899 12 1 died;", 28, 4);
        String piece = "piece a 1900 1 1;";
        dueText(piece + "close content a 0;close content a 200 whole;", 3);
        dueFault(piece + "close content a 201;", 33, 4);
        dueText("person a;close person a 200 200 200;", 2);
        dueFault("person a;close person a 201 0 0;", 24, 4);
        dueFault("person a;close person a 0 201 0;", 26, 4);
        dueFault("person a;close person a 0 0 201;", 28, 4);
        dueFault("deposit a 1900 1 1;close deposit a 201;", 35, 4);
        dueFault(piece + "close until a 1900 6 31;", 38, 4);
    }

    private static String many(String before, String behind, int many) {
        StringBuilder text = new StringBuilder();
        for (int i = 0; i < many; i++) {
            text.append(before).append((char) ('a' + i / 26)).append((char) ('a' + i % 26)).append(behind);
        }
        return text.toString();
    }

    private static void tooManyFaults() {
        String people = many("person p", ";", 8);
        dueText(people, 8);
        dueFault(people + "person", people.length(), 5);
        dueFault(people + " person paa;", people.length() + 1, 5);
        String deposits = many("deposit d", " 1900 1 1;", 4);
        dueText(deposits, 4);
        dueFault(deposits + "deposit x 1900 1 1;", deposits.length(), 5);
        String pieces = many("piece q", " 1900 1 1;", 24);
        dueText(pieces, 24);
        dueFault(pieces + "piece x 1900 1 1;", pieces.length(), 5);
        String closures = "piece q 1900 1 1;";
        for (int i = 0; i < 12; i++) {
            closures += "close content q 1;";
        }
        dueText(closures, 13);
        dueFault(closures + "close", closures.length(), 5);
        String four = people + "piece q 1900 1 1 of paa of pab of pac of pad";
        dueText(four + ";", 9);
        dueFault(four + " of pae;", four.length() + 1, 5);
        dueFault(four + " of paa;", four.length() + 1, 5);
        dueFault(four + " of $", four.length() + 1, 5);
        dueText(people + deposits + many("piece q", " 1900 1 1;", 24) + many("close deposit d", " 1;", 4), 40);
    }

    private static void leastPlaceIsTold() {
        dueFault("person a;person a born 1600 1 1 $", 16, 2);
        dueFault("deposit a 1600 13 32 $", 10, 4);
        dueFault("piece a in b 1600 1 1;", 11, 3);
        dueFault("$person a;person a;", 0, 1);
        dueFault("person a born 1900 1 2 died 1800 1 1 $", 28, 4);
    }

    private static void faultLeavesAllElse() {
        ClosedUntil x = Checks.told("person p;piece a 1900 1 1 of p;piece b in a 1900 1 1;close content a 10;");
        x.review(0, 0, 5);
        x.lift(0, Checks.d(1999, 1, 1));
        x.keep(1, false);
        x.died(0, 5);
        CHECKS.due("a fault", Checks.tell(x, "piece c 1950 1 1;piece d 1950 1 1;close content c 200;close"),
            Checks.fault(59, 1));
        CHECKS.due("count(0)", x.count(0), 2);
        CHECKS.due("count(3)", x.count(3), 1);
        CHECKS.due("count(4)", x.count(4), 1);
        CHECKS.due("count(5)", x.count(5), 1);
        CHECKS.due("count(6)", x.count(6), 3);
        CHECKS.due("opens(1, 0)", x.opens(1, 0), Checks.d(1915, 1, 1));
        CHECKS.due("piece(1, 0)", x.piece(1, 0), 0);
        CHECKS.due("undo()", x.undo(), 2);
        CHECKS.due("keep(1, true)", x.keep(1, true), true);
        CHECKS.due("piece(0, 1)", x.piece(0, 1), Checks.d(1900, 1, 1));
    }

    private static void newTextForgets() {
        ClosedUntil x = Checks.told("person p died 1950 1 1;piece a 1900 1 1 of p;close content a 10;");
        x.review(0, 0, 5);
        x.lift(0, 7);
        x.keep(0, false);
        x.keep(1, false);
        CHECKS.due("another text", Checks.tell(x, "person p;piece a 1900 1 1 of p;close content a 10;"), 3);
        CHECKS.due("count(4)", x.count(4), 0);
        CHECKS.due("count(5)", x.count(5), 0);
        CHECKS.due("count(6)", x.count(6), 0);
        CHECKS.due("undo()", x.undo(), -1);
        CHECKS.due("keep(0, true)", x.keep(0, true), false);
        CHECKS.due("keep(1, true)", x.keep(1, true), false);
        CHECKS.due("person(0, 1)", x.person(0, 1), -1);
        CHECKS.due("opens(0, 0)", x.opens(0, 0), Checks.d(1910, 1, 1));
    }
}

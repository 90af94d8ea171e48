import java.util.ArrayList;
import java.util.List;

/** The tape, its tokens, lines and faults (Terms, ==== 1), and the promises 2 and 3: a method for each sentence. */
public final class TextEdgeTest {
    private static final Checks CHECKS = new Checks();
    private static final int BLANKS = 0x20202020;
    private static final String[] KEYWORDS = {"person", "born", "died", "deposit", "piece", "in", "of", "from", "close",
        "content", "until", "whole"};
    /** One of each, for lines that ask for names. */
    private static final String TOLD = "person p;deposit d 1900 1 1;piece q 1900 1 1;";

    public static void main(String[] args) {
        tapeHas1000Bytes();
        highestByteFirst();
        allBytesGoOnTheTape();
        refusedFeedChangesNothing();
        textOfMoreThanThereIs();
        textBelowNothing();
        textOfAllAndOfLess();
        textCutAtEachByte();
        textOfNothing();
        textAfterText();
        bytesThatBeginNoToken();
        bytesBehindAWord();
        bytesBehindANumber();
        blanksMeanNothingElse();
        wordsHave8Letters();
        wordsOfOneLetter();
        numbersHave8Digits();
        semicolonsAreAlone();
        namesAreNoKeywords();
        wordsBesideKeywordsAreNames();
        linesInAllTheirForms();
        tokensThatDoNotGoOn();
        endOfTheText();
        namesGivenTwice();
        sameOneOfPeopleTwice();
        namesNotToldAhead();
        namesOfOtherKinds();
        namesMayBeAskedOften();
        allNamesAreKnown();
        years0To200();
        datesEverywhere();
        deathAheadOfTheBirth();
        asManyAsThereMayBe();
        oneTooMany();
        fourOfAPiece();
        numberedAsTold();
        leastPlace();
        firstOfTheList();
        CHECKS.finish();
    }

    private static void dueText(String text, int want) {
        CHECKS.due("text \"" + text + "\"", Checks.tell(new ClosedUntil(), text), want);
    }

    /** The fault's place is marked in the text by a sign that is none of it. */
    private static void dueFault(int kind, String marked) {
        int place = marked.indexOf('^');
        dueText(marked.replace("^", ""), Checks.fault(place, kind));
    }

    private static int feedBlanks(ClosedUntil x) {
        return x.feed(BLANKS, BLANKS, BLANKS, BLANKS, BLANKS);
    }

    // ---- promise 2

    /** "Twenty bytes come behind THE TAPE ..: how many it has; NONE .. if it would have more than 1,000". */
    private static void tapeHas1000Bytes() {
        ClosedUntil x = new ClosedUntil();
        for (int i = 1; i <= 50; i++) {
            CHECKS.due("feed " + i, feedBlanks(x), 20 * i);
            CHECKS.due("count(7)", x.count(7), 20 * i);
        }
        CHECKS.due("feed 51", feedBlanks(x), -1);
        CHECKS.due("feed 52", feedBlanks(x), -1);
        CHECKS.due("count(7), full", x.count(7), 1000);
        CHECKS.due("text(1000)", x.text(1000), 0);
        CHECKS.due("feed, empty again", feedBlanks(x), 20);
    }

    /** "of each number the highest first": twenty different bytes, of which each can be told. */
    private static void highestByteFirst() {
        String twenty = "person abcdefgh ;  ;";
        for (int at = 0; at < 20; at++) {
            ClosedUntil x = new ClosedUntil();
            StringBuilder spoilt = new StringBuilder("                    ");
            spoilt.setCharAt(at, '$');
            CHECKS.due("the byte " + at, Checks.tell(x, spoilt.toString()), Checks.fault(at, 1));
        }
        ClosedUntil x = new ClosedUntil();
        CHECKS.due("feed", x.feed(0x70657273, 0x6f6e2061, 0x62636465, 0x66676820, 0x3b20203b), 20);
        CHECKS.due("text(19)", x.text(19), 1);
        dueFault(1, twenty.substring(0, 19) + "^;");
    }

    /** Bytes are 0 to 255: the highest bit of a number is no sign. */
    private static void allBytesGoOnTheTape() {
        ClosedUntil x = new ClosedUntil();
        CHECKS.due("feed of the least", x.feed(Integer.MIN_VALUE, -1, -1, -1, -1), 20);
        CHECKS.due("text(1)", x.text(1), Checks.fault(0, 1));
        CHECKS.due("feed of 255", x.feed(0x202020ff, -1, -1, -1, Integer.MAX_VALUE), 20);
        CHECKS.due("text(3)", x.text(3), 0);
        CHECKS.due("feed of 255", x.feed(0x202020ff, -1, -1, -1, Integer.MAX_VALUE), 20);
        CHECKS.due("text(4)", x.text(4), Checks.fault(3, 1));
    }

    /** "NONE, and none come": the tape's end is as it was. */
    private static void refusedFeedChangesNothing() {
        String full = " ".repeat(980) + "person a;person b;  ";
        ClosedUntil x = new ClosedUntil();
        CHECKS.due("fed", Checks.feedBytes(x, full.getBytes()), 1000);
        CHECKS.due("refused", x.feed(0x24242424, 0x24242424, 0x24242424, 0x24242424, 0x24242424), -1);
        CHECKS.due("count(7)", x.count(7), 1000);
        CHECKS.due("text(1000)", x.text(1000), 2);
        Twins.dueAsBefore(CHECKS, "feed to a full tape", t -> {
            Checks.tell(t, TOLD);
            Checks.feedBytes(t, full.getBytes());
        }, t -> feedBlanks(t));
    }

    // ---- promise 3

    /** "NONE: it has not so many .. (THE TAPE stays)". */
    private static void textOfMoreThanThereIs() {
        ClosedUntil x = new ClosedUntil();
        CHECKS.due("text(1) of nothing", x.text(1), -1);
        feedBlanks(x);
        CHECKS.due("text(21) of 20", x.text(21), -1);
        CHECKS.due("text(1000) of 20", x.text(1000), -1);
        CHECKS.due("text, most", x.text(Integer.MAX_VALUE), -1);
        CHECKS.due("count(7)", x.count(7), 20);
        CHECKS.due("text(20) of 20", x.text(20), 0);
        CHECKS.due("count(7)", x.count(7), 0);
        CHECKS.due("text(20), again", x.text(20), -1);
        Twins.dueAsBefore(CHECKS, "text of too many", t -> {
            toldWithActs(t);
            Checks.feedBytes(t, "person a;person b;  ".getBytes());
        }, t -> t.text(21));
    }

    /** "NONE: .. n is below 0 (THE TAPE stays)". */
    private static void textBelowNothing() {
        ClosedUntil x = new ClosedUntil();
        CHECKS.due("text(-1) of nothing", x.text(-1), -1);
        feedBlanks(x);
        CHECKS.due("text(-1)", x.text(-1), -1);
        CHECKS.due("text, least", x.text(Integer.MIN_VALUE), -1);
        CHECKS.due("count(7)", x.count(7), 20);
        Twins.dueAsBefore(CHECKS, "text below 0", t -> {
            toldWithActs(t);
            Checks.feedBytes(t, "person a;person b;  ".getBytes());
        }, t -> t.text(-1));
    }

    private static void toldWithActs(ClosedUntil x) {
        Checks.tell(x, TOLD + "close content q 10;close person p 1 2 3;");
        x.keep(0, false);
        x.review(0, 9, 5);
        x.lift(1, 7);
        x.keep(1, false);
        x.died(0, 5);
    }

    /** "The first n bytes of THE TAPE (it is empty then)": what is behind them is gone, too. */
    private static void textOfAllAndOfLess() {
        String[] texts = {"person a;", "person a;person b;", "person a;person b;$"};
        for (String text : texts) {
            for (int n = 0; n <= 20; n++) {
                ClosedUntil x = new ClosedUntil();
                Checks.feedBytes(x, text.getBytes());
                String cut = n <= text.length() ? text.substring(0, n) : text + (char) 0;
                CHECKS.due("text(" + n + ") of \"" + text + "\"", x.text(n), new Model().read(cut));
                CHECKS.due("count(7)", x.count(7), 0);
            }
        }
        ClosedUntil x = new ClosedUntil();
        Checks.feedBytes(x, "person a;person b;".getBytes());
        CHECKS.due("text(9)", x.text(9), 1);
        CHECKS.due("text(9), the rest is gone", x.text(9), -1);
        CHECKS.due("a fault empties the tape", Checks.tell(x, "person a;;"), Checks.fault(9, 1));
        CHECKS.due("count(7)", x.count(7), 0);
        CHECKS.due("feed comes first on it", Checks.tell(x, "person c;"), 1);
    }

    /** "The first n bytes": not one more, though the tape has more that would go on. */
    private static void textCutAtEachByte() {
        String text = "person abc born 1900 12 31 died 2000 10 30;deposit de 1900 11 11;\n"
            + "piece fg 1900 10 10 of abc from de;piece hi in fg 1950 12 12;\n"
            + "close person abc 100 110 120 whole;close until hi 2000 12 12;";
        for (int n = 0; n <= text.length(); n++) {
            ClosedUntil x = new ClosedUntil();
            Checks.feedBytes(x, text.getBytes());
            CHECKS.due("text(" + n + ")", x.text(n), new Model().read(text.substring(0, n)));
        }
    }

    /** "are the TEXT from now on": nothing of an earlier one is left, however full it was and often asked. */
    private static void textAfterText() {
        String rich = "person p born 1800 1 1 died 1900 1 1;deposit d 1900 1 1;piece q 1900 1 1 of p from d;"
            + "piece r in q 1900 1 1 of p from d;close content q 9 whole;close person p 9 9 9 whole;";
        String poor = "person p;deposit d 1700 1 1;piece q 1700 1 1;piece r 1700 1 2;close until q 1700 1 1;"
            + "close until r 1700 1 1;";
        for (int before = 1; before <= 3; before++) {
            ClosedUntil x = new ClosedUntil();
            for (int i = 0; i < before; i++) {
                Checks.tell(x, rich);
            }
            CHECKS.due("opens(1, 0)", x.opens(1, 0), Checks.d(1910, 1, 1));
            CHECKS.due("another text", Checks.tell(x, poor), 6);
            CHECKS.due("opens(1, 0)", x.opens(1, 0), 0);
            Twins.dueSame(CHECKS, "as told alone", x, Checks.told(poor));
        }
    }

    /** "The first n bytes .. are the TEXT from now on": none of them tell nothing, and what was told is gone. */
    private static void textOfNothing() {
        ClosedUntil x = new ClosedUntil();
        toldWithActs(x);
        CHECKS.due("text(0)", x.text(0), 0);
        Twins.dueSame(CHECKS, "as a new one", x, new ClosedUntil());
        CHECKS.due("nothing can be UNDONE", x.undo(), -1);
        CHECKS.due("nothing is KEPT in 0", x.keep(0, true), false);
        CHECKS.due("nothing is KEPT in 1", x.keep(1, true), false);
        ClosedUntil y = new ClosedUntil();
        toldWithActs(y);
        feedBlanks(y);
        CHECKS.due("text(0) of 20", y.text(0), 0);
        Twins.dueSame(CHECKS, "as a new one", y, new ClosedUntil());
    }

    // ---- tokens

    /** "1 the first byte that begins no TOKEN": each byte, where a line may begin. */
    private static void bytesThatBeginNoToken() {
        for (int b = 0; b < 256; b++) {
            boolean blank = b == 32 || b == 10;
            dueText("" + (char) b, blank ? 0 : Checks.fault(0, 1));
            dueText("person a;" + (char) b, blank ? 1 : Checks.fault(9, 1));
        }
    }

    /** "WORDS (small letters, each that stand together ..)": each byte behind one, ahead of a semicolon. */
    private static void bytesBehindAWord() {
        for (int b = 0; b < 256; b++) {
            boolean goesOn = b == 32 || b == 10 || b >= 'a' && b <= 'z';
            int want = goesOn ? 1 : b == ';' ? Checks.fault(9, 1) : Checks.fault(8, 1);
            dueText("person a" + (char) b + ";", want);
        }
    }

    /** "NUMBERS (digits, likewise)": each byte behind one, a month that goes on to 10, 11 or 12. */
    private static void bytesBehindANumber() {
        for (int b = 0; b < 256; b++) {
            boolean goesOn = b == 32 || b == 10 || b >= '0' && b <= '2';
            boolean digit = b >= '0' && b <= '9';
            int want = goesOn ? 1 : digit ? Checks.fault(15, 4) : Checks.fault(16, 1);
            dueText("deposit d 1900 1" + (char) b + " 1;", want);
        }
    }

    /** "Blanks, 32, 10, part TOKENS and mean nothing else". */
    private static void blanksMeanNothingElse() {
        dueText("person a born 1900 1 1;", 1);
        dueText("\n\nperson\na\nborn\n1900\n1\n1\n;\n\n", 1);
        dueText("  person \n a  born  1900 \n\n 1  1  ;  person  b;", 2);
        dueText("person a;person b;", 2);
        dueText("person a born1900 1 1died1901 1 1;deposit d1900 1 1;", 2);
        dueText("piece q1900 1 1;close content q10whole;close until q2000 1 1;", 3);
        dueText(" ".repeat(991) + "person a;", 1);
        dueText("person a;" + "\n".repeat(991), 1);
        dueText("person" + " ".repeat(992) + "a;", 1);
        dueFault(1, "^per son a;");
        dueFault(1, "person a ^b;");
        dueFault(4, "deposit d ^19 00 1 1;");
    }

    /** "WORDS (.. 1 to 8) .. (longer WORDS .. are no TOKENS)". */
    private static void wordsHave8Letters() {
        dueText("person a;", 1);
        dueText("person z;", 1);
        dueText("person abcdefgh;", 1);
        dueText("person zzzzzzzz;", 1);
        dueFault(1, "person ^abcdefghi;");
        dueFault(1, "person ^" + "a".repeat(990) + ";");
        dueFault(1, "^deposits d 1900 1 1;");
        dueFault(1, "^personaaa a;");
        dueText("person abcdefgh;person abcdefgg;person abcdefg;person bbcdefgh;", 4);
        dueFault(2, "person abcdefgh;person ^abcdefgh;");
        dueFault(3, "piece abcdefgh 1900 1 1;close content ^abcdefg 1;");
        dueFault(3, "piece aa 1900 1 1;close content ^a 1;");
        dueFault(3, "piece a 1900 1 1;close content ^aa 1;");
        dueText("piece abcdefgh 1900 1 1;close content abcdefgh 1;", 2);
    }

    /** A name is all its letters: one of 1 to 8 equal ones is another than all others. */
    private static void wordsOfOneLetter() {
        for (char letter = 'a'; letter <= 'z'; letter++) {
            StringBuilder text = new StringBuilder();
            for (int many = 1; many <= 8; many++) {
                text.append("person ").append(("" + letter).repeat(many)).append(';');
            }
            dueText(text.toString(), 8);
        }
        dueText("person ab;person ba;person aab;person aba;person baa;person abb;person bab;person bba;", 8);
    }

    /** "NUMBERS (digits, likewise)": 1 to 8. */
    private static void numbersHave8Digits() {
        dueText("deposit d 00001900 00000012 00000031;", 1);
        dueFault(1, "deposit d ^000001900 1 1;");
        dueFault(1, "deposit d 1900 ^000000012 1;");
        dueFault(1, "deposit d 1900 12 ^000000031;");
        dueFault(4, "deposit d ^99999999 1 1;");
        dueFault(1, "deposit d ^999999999 1 1;");
        dueFault(1, "deposit d ^" + "1".repeat(980) + ";");
        dueText(TOLD + "close content q 00000200;", 4);
        dueFault(1, TOLD + "close content q ^000000200;");
        dueFault(4, TOLD + "close content q ^00000201;");
        // Numbers that would be right again if they were cut to 32 bits.
        dueFault(1, "deposit d ^4294969196 1 1;");
        dueFault(1, "deposit d ^18446744073709553516 1 1;");
    }

    /** "; alone": it needs no blanks, and each is one of its own. */
    private static void semicolonsAreAlone() {
        dueText("person a;person b ; person c\n;", 3);
        dueFault(1, "^;");
        dueFault(1, "^;;");
        dueFault(1, "person a;^;");
        dueFault(1, "person a; ^; person b;");
        dueFault(1, "person a^:");
        dueFault(1, "person a^,");
    }

    // ---- names and lines

    private static String[] linesThatGive(String name) {
        return new String[] {"person ^" + name + ";", "deposit ^" + name + " 1900 1 1;", "piece ^" + name + " 1900 1 1;"};
    }

    private static String[] linesThatAsk(String name) {
        return new String[] {"piece x in ^" + name + " 1900 1 1;", "piece x 1900 1 1 of ^" + name + ";",
            "piece x 1900 1 1 of p of ^" + name + ";", "piece x 1900 1 1 from ^" + name + ";",
            "close content ^" + name + " 1;", "close person ^" + name + " 1 2 3;", "close deposit ^" + name + " 1;",
            "close until ^" + name + " 1900 1 1;"};
    }

    /** "A NAME is a WORD but person, born, ..": each, wherever a NAME stands. */
    private static void namesAreNoKeywords() {
        for (String word : KEYWORDS) {
            for (String line : linesThatGive(word)) {
                dueFault(1, line);
            }
            for (String line : linesThatAsk(word)) {
                dueFault(1, TOLD + line);
            }
        }
    }

    /** Only just these words are none. */
    private static void wordsBesideKeywordsAreNames() {
        String[] names = {"perso", "personn", "erson", "bor", "borns", "die", "dieds", "deposi", "piec", "pieces", "i",
            "inn", "n", "o", "off", "f", "fro", "fromm", "clos", "closes", "conten", "contents", "unti", "untill",
            "whol", "wholes", "year", "none", "late"};
        for (String name : names) {
            for (String line : linesThatGive(name)) {
                dueText(line.replace("^", ""), 1);
            }
        }
        dueFault(1, "^persons p;");
        dueFault(1, "person p ^borns 1900 1 1;");
        dueFault(1, "person p ^o;");
    }

    /** "LINE: ..": what is in [ ] and { } may be there or not. */
    private static void linesInAllTheirForms() {
        dueText("person a;person b born 1900 1 1;person c died 1900 1 1;person e born 1900 1 1 died 1900 1 1;", 4);
        dueText("deposit d 1900 1 1;", 1);
        String head = TOLD + "person r;";
        String[] ins = {"", "in q "};
        String[] ofs = {"", " of p", " of r of p"};
        String[] froms = {"", " from d"};
        for (String in : ins) {
            for (String of : ofs) {
                for (String from : froms) {
                    dueText(head + "piece x " + in + "1900 1 1" + of + from + ";", 5);
                }
            }
        }
        String[] wholes = {"", " whole"};
        for (String whole : wholes) {
            dueText(TOLD + "close content q 1" + whole + ";", 4);
            dueText(TOLD + "close person p 1 2 3" + whole + ";", 4);
            dueText(TOLD + "close deposit d 1" + whole + ";", 4);
        }
        dueText(TOLD + "close until q 1900 1 1;", 4);
    }

    /** "1 .. TOKEN with which no TEXT goes on (its first byte)": in each line, at each place. */
    private static void tokensThatDoNotGoOn() {
        String[] lines = {"person x born 1900 1 1 died 1901 1 1;", "deposit x 1900 1 1;",
            "piece x in q 1900 1 1 of p from d;", "close content q 1 whole;", "close person p 1 2 3 whole;",
            "close deposit d 1 whole;", "close until q 1900 1 1;"};
        String[] tokens = {"person", "born", "died", "deposit", "piece", "in", "of", "from", "close", "content",
            "until", "whole", "p", "1", ";"};
        for (String line : lines) {
            for (int at : tokenPlaces(line)) {
                for (String token : tokens) {
                    String text = TOLD + line.substring(0, at) + token + " " + line.substring(at);
                    dueText(text, new Model().read(text));
                }
            }
        }
        dueFault(1, "person a died 1900 1 1 ^born 1800 1 1;");
        dueFault(1, "person a ^whole;");
        dueFault(1, "person a died 1900 1 1 ^died 1900 1 1;");
        dueFault(1, "deposit d ^born 1900 1 1;");
        dueFault(1, TOLD + "piece x 1900 1 1 ^in q;");
        dueFault(1, TOLD + "piece x 1900 1 1 from d ^of p;");
        dueFault(1, TOLD + "piece x 1900 1 1 from d ^from d;");
        dueFault(1, TOLD + "close until q 1900 1 1 ^whole;");
        dueFault(1, TOLD + "close ^piece q 1;");
        dueFault(1, TOLD + "close ^q 1;");
        dueFault(1, TOLD + "close ^whole q 1;");
        dueFault(1, TOLD + "close person p 1 2 ^whole;");
        dueFault(1, TOLD + "close person p 1 2 3 ^4;");
        dueFault(1, TOLD + "close content q 1 ^2;");
        dueFault(1, TOLD + "close content q ^whole;");
    }

    private static List<Integer> tokenPlaces(String line) {
        List<Integer> places = new ArrayList<>();
        for (int i = 0; i < line.length(); i++) {
            boolean begins = i == 0 || line.charAt(i - 1) == ' ' || line.charAt(i) == ';';
            if (begins) {
                places.add(i);
            }
        }
        return places;
    }

    /** "(.. the end: how many bytes there are)": a text that is cut behind each of its tokens. */
    private static void endOfTheText() {
        String[] lines = {"person x born 1900 1 1 died 1901 1 1;", "deposit x 1900 1 1;",
            "piece x in q 1900 1 1 of p from d;", "close content q 1 whole;", "close person p 1 2 3 whole;",
            "close deposit d 1 whole;", "close until q 1900 1 1;"};
        for (String line : lines) {
            for (int at : tokenPlaces(line)) {
                String cut = TOLD + line.substring(0, at);
                dueText(cut, at == 0 ? 3 : Checks.fault(cut.length(), 1));
                dueText(cut + " \n", at == 0 ? 3 : Checks.fault(cut.length() + 2, 1));
            }
        }
        dueFault(1, "person^");
        dueFault(1, "person   ^");
        dueFault(1, "person a^");
        dueFault(1, " ".repeat(994) + "person^");
    }

    /** "2 a NAME given that is there": of each kind by each kind, at the NAME. */
    private static void namesGivenTwice() {
        for (String first : linesThatGive("a")) {
            for (String second : linesThatGive("a")) {
                dueFault(2, first.replace("^", "") + second);
                dueFault(2, first.replace("^", "") + "person b;" + second);
            }
            for (String second : linesThatGive("b")) {
                dueText((first + second).replace("^", ""), 2);
            }
        }
    }

    /** "2 .. one of PEOPLE told twice of a PIECE": "each once". */
    private static void sameOneOfPeopleTwice() {
        String people = "person a;person b;person c;";
        dueText(people + "piece x 1900 1 1 of a of b of c;", 4);
        dueFault(2, people + "piece x 1900 1 1 of a of ^a;");
        dueFault(2, people + "piece x 1900 1 1 of a of b of ^a;");
        dueFault(2, people + "piece x 1900 1 1 of a of b of c of ^a;");
        dueFault(2, people + "piece x 1900 1 1 of a of b of c of ^c;");
        dueText(people + "piece x 1900 1 1 of a;piece y 1900 1 1 of a;", 5);
    }

    /** "NAMES are told ahead where they are asked"; "3 a NAME that is not told ahead". */
    private static void namesNotToldAhead() {
        for (String line : linesThatAsk("u")) {
            dueFault(3, TOLD + line);
            dueFault(3, TOLD + line + "person u;");
            dueFault(3, TOLD + line + "deposit u 1900 1 1;");
            dueFault(3, TOLD + line + "piece u 1900 1 1;");
        }
        // A line's own name is told with the line, not ahead of it.
        dueFault(3, "piece u in ^u 1900 1 1;");
        dueFault(3, "piece u 1900 1 1 of ^u;");
        dueFault(3, "piece u 1900 1 1 from ^u;");
    }

    /** "3 .. or is none of what is asked": a name of each kind, wherever another is asked. */
    private static void namesOfOtherKinds() {
        String[] names = {"p", "d", "q"};
        for (String name : names) {
            for (String line : linesThatAsk(name)) {
                String text = TOLD + line;
                boolean fits = line.contains("in ^q") || line.contains("of ^p") || line.contains("from ^d")
                    || line.contains("content ^q") || line.contains("person ^p") || line.contains("deposit ^d")
                    || line.contains("until ^q");
                if (!fits) {
                    dueFault(3, text);
                } else if (line.contains("of p of ^p")) {
                    dueFault(2, text);
                } else {
                    dueText(text.replace("^", ""), 4);
                }
            }
        }
    }

    private static void namesMayBeAskedOften() {
        dueText(TOLD + "close content q 1;close content q 1;close until q 1900 1 1;close person p 1 1 1;"
            + "close person p 1 1 1;close deposit d 1;close deposit d 1;piece x in q 1900 1 1 of p from d;"
            + "piece y in q 1900 1 1 of p from d;", 12);
    }

    /** "No NAME is given twice", "NAMES are told ahead": as many as there may be, to the last. */
    private static void allNamesAreKnown() {
        String names = Full.people(8) + Full.deposits(4) + Full.pieces(24);
        for (int i = 0; i < 8; i++) {
            dueText(names + "close person " + Full.name('p', i) + " 1 1 1;", 37);
        }
        for (int i = 0; i < 4; i++) {
            dueText(names + "close deposit " + Full.name('d', i) + " 1;", 37);
        }
        for (int i = 0; i < 24; i++) {
            dueText(names + "close content " + Full.name('q', i) + " 1;", 37);
            dueFault(2, names.replaceFirst("person ph;", "") + "person ^" + Full.name('q', i) + ";");
        }
    }

    /** "YEARS 0 to 200" and "4 a NUMBER that can't be (at it)". */
    private static void years0To200() {
        String[] befores = {"close content q ", "close deposit d ", "close person p ", "close person p 1 ",
            "close person p 1 2 "};
        String[] behinds = {";", ";", " 2 3;", " 3;", ";"};
        for (int i = 0; i < befores.length; i++) {
            dueText(TOLD + befores[i] + "0" + behinds[i], 4);
            dueText(TOLD + befores[i] + "200" + behinds[i], 4);
            dueFault(4, TOLD + befores[i] + "^201" + behinds[i]);
            dueFault(4, TOLD + befores[i] + "^99999999" + behinds[i]);
            dueFault(1, TOLD + befores[i] + "^-1" + behinds[i]);
        }
    }

    /** "DATE: .. (year 1700 to 2299, month 1 to 12, a day there is in it)": wherever one stands. */
    private static void datesEverywhere() {
        String[] befores = {"person x born ", "person x died ", "person x born 1700 1 1 died ", "deposit x ",
            "piece x ", "piece x in q ", "close until q "};
        String[] good = {"1700 1 1", "2299 12 31", "1900 2 28", "2000 2 29", "1896 2 29", "1900 4 30", "1900 12 1"};
        String[] bad = {"^1699 12 31", "^2300 1 1", "^0 1 1", "1900 ^0 1", "1900 ^13 1", "1900 1 ^0", "1900 1 ^32",
            "1900 2 ^29", "1700 2 ^29", "2100 2 ^29", "2000 2 ^30", "1896 2 ^30", "1900 4 ^31", "1900 6 ^31", "1900 9 ^31",
            "1900 11 ^31", "1900 12 ^32", "^1699 13 32", "1900 ^13 32", "1900 ^0 0"};
        for (String before : befores) {
            for (String date : good) {
                dueText(TOLD + before + date + ";", 4);
            }
            for (String date : bad) {
                dueFault(4, TOLD + before + date + ";");
            }
        }
    }

    /** "4 .. a death ahead of the birth (at its year)". */
    private static void deathAheadOfTheBirth() {
        dueText("person a born 1900 3 1 died 1900 3 1;", 1);
        dueFault(4, "person a born 1900 3 1 died ^1900 2 28;");
        dueText("person a born 1900 3 1 died 1900 3 2;", 1);
        dueFault(4, "person a born 1900 3 1 died ^1899 12 31;");
        dueText("person a born 1700 1 1 died 1700 1 1;", 1);
        dueText("person a born 2299 12 31 died 2299 12 31;", 1);
        dueFault(4, "person a born 2299 12 31 died ^2299 12 30;");
        dueFault(4, "person a born 1700 1 2 died ^1700 1 1;");
        dueText("person a died 1700 1 1;", 1);
        dueText("person a born 1900 1 1;person b died 1800 1 1;", 2);
        // What is behind is not told, as it lies behind the death's year.
        dueFault(4, "person a born 1900 3 1 died ^1900 2 28");
        dueFault(4, "person a born 1900 3 1 died ^1900 2 28 $");
    }

    // ---- how many there may be

    /** "At most 8 PEOPLE, 4 DEPOSITS, 24 PIECES, 12 CLOSURES". */
    private static void asManyAsThereMayBe() {
        dueText(Full.people(8), 8);
        dueText(Full.deposits(4), 4);
        dueText(Full.pieces(24), 24);
        dueText(Full.pieces(12) + Full.closures(12), 24);
        ClosedUntil x = new ClosedUntil();
        CHECKS.due("all of all", Checks.tell(x, Full.text()), 48);
        CHECKS.due("PIECES", x.count(0), 24);
        CHECKS.due("PEOPLE", x.count(1), 8);
        CHECKS.due("DEPOSITS", x.count(2), 4);
        CHECKS.due("CLOSURES", x.count(3), 12);
        CHECKS.due("all of all, anew", Checks.tell(x, Full.text()), 48);
    }

    /** "5 one too many: the WORD person, deposit, piece, close": whatever is behind it. */
    private static void oneTooMany() {
        String full = Full.text();
        String[] words = {"person", "deposit", "piece", "close"};
        String[] behinds = {"", ";", " pa;", " x;", " x 1900 1 1;", " content qa 1;", " $", " person"};
        for (String word : words) {
            for (String behind : behinds) {
                dueFault(5, full + "^" + word + behind);
                dueFault(5, full + " \n^" + word + behind);
            }
        }
        dueFault(5, Full.people(8) + "^person x;");
        dueFault(5, Full.deposits(4) + "^deposit x 1900 1 1;");
        dueFault(5, Full.pieces(24) + "^piece x 1900 1 1;");
        dueFault(5, Full.pieces(12) + Full.closures(12) + "^close content qa 1;");
        // As many of one kind leave room for the others; the words within a close are no more of them.
        dueText(Full.people(8) + "deposit x 1900 1 1;piece y 1900 1 1;close person pa 1 1 1;", 11);
        dueText(Full.deposits(4) + "person x;piece y 1900 1 1;close deposit da 1;", 7);
        dueText(Full.pieces(24) + "person x;deposit y 1900 1 1;close content qa 1;", 27);
        dueText(Full.pieces(12) + Full.closures(12) + "person x;deposit y 1900 1 1;piece z 1900 1 1;", 27);
    }

    /** "PEOPLE, each once, 4 at most"; "5 .. a fifth of". */
    private static void fourOfAPiece() {
        String four = Full.people(8) + "piece x 1900 1 1 of pa of pc of pe of ph";
        ClosedUntil x = new ClosedUntil();
        CHECKS.due("four", Checks.tell(x, four + ";"), 9);
        CHECKS.due("piece(0, 2)", x.piece(0, 2), 1 + 4 + 16 + 128);
        String[] behinds = {" pb;", " pa;", " x;", ";", "", " $", " of"};
        for (String behind : behinds) {
            dueFault(5, four + " ^of" + behind);
        }
        dueText(four + ";piece y 1900 1 1 of pa of pc of pe of pb;", 10);
        dueFault(5, four + ";piece y 1900 1 1 of pa of pc of pe of pb ^of pd;");
    }

    /** "numbered as told": each kind for itself, from 0. */
    private static void numberedAsTold() {
        ClosedUntil x = new ClosedUntil();
        Checks.tell(x, "piece z 1900 1 1;person y;piece b 1900 1 2 of y;deposit k 1900 1 1;person a;deposit c 1900 1 2;"
            + "close content b 1;piece m in z 1900 1 3 of a from c;close deposit k 1;close person a 1 1 1;close until m 1900 1 1;");
        CHECKS.due("piece(0, 1)", x.piece(0, 1), Checks.d(1900, 1, 1));
        CHECKS.due("piece(1, 2)", x.piece(1, 2), 1);
        CHECKS.due("piece(2, 0)", x.piece(2, 0), 0);
        CHECKS.due("piece(2, 2)", x.piece(2, 2), 2);
        CHECKS.due("piece(2, 3)", x.piece(2, 3), 1);
        CHECKS.due("closure(0, 1)", x.closure(0, 1), 1);
        CHECKS.due("closure(1, 1)", x.closure(1, 1), 0);
        CHECKS.due("closure(2, 1)", x.closure(2, 1), 1);
        CHECKS.due("closure(3, 1)", x.closure(3, 1), 2);
    }

    /** "FAULTS, the one whose place is least": one of each kind ahead of one of each. */
    private static void leastPlace() {
        String head = Full.people(8) + "piece q 1900 1 1;";
        String[] faulty = {"deposit a^$;", "deposit ^pa 1900 1 1;", "close content ^u 1;", "deposit a ^1699 1 1;",
            "^person x;"};
        for (int first = 0; first < faulty.length; first++) {
            for (String second : faulty) {
                dueFault(first + 1, head + faulty[first] + second.replace("^", ""));
            }
        }
        // In one line, and ahead of a byte that begins no token.
        dueFault(2, "person a;person ^a born 1699 1 1 $");
        dueFault(4, "person a born ^1699 13 1 $");
        dueFault(3, "piece a in ^u 1699 1 1 of v;");
        dueFault(1, "^$person a;person a;");
    }

    /** "of one place the first of this list": a word that is one too many where none may stand is fault 1. */
    private static void firstOfTheList() {
        dueFault(1, Full.people(7) + "person x ^person y;");
        dueFault(1, Full.deposits(3) + "deposit x ^deposit y 1900 1 1;");
        dueFault(1, Full.pieces(23) + "piece x ^piece y 1900 1 1;");
        dueFault(1, Full.pieces(12) + Full.closures(11) + "close content qa 1 ^close content qa 1;");
        dueFault(1, Full.people(8) + Full.deposits(1)
            + "piece x 1900 1 1 of pa of pb of pc of pd from da ^of pe;");
    }
}

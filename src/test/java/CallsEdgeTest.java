/** The promises 1 and 7 to 22 at the ends of what each call takes, and where nothing is told. */
public final class CallsEdgeTest {
    private static final Checks CHECKS = new Checks();
    private static final int LATE = ClosedUntil.LATE;
    private static final int LAST = LATE - 1;
    private static final int MIN = Integer.MIN_VALUE;
    private static final int MAX = Integer.MAX_VALUE;
    private static final String NO_SUCH = "java.util.NoSuchElementException";
    private static final int ALL_PIECES = (1 << 24) - 1;
    private static final int ALL_CLOSURES = (1 << 12) - 1;

    public static void main(String[] args) {
        nothingTold(new ClosedUntil());
        nothingTold(emptied());
        nothingToldOfOneKind();
        piece();
        pieceOfNone();
        person();
        personOfNone();
        closure();
        closureOfNone();
        term();
        ends();
        opens();
        allOf();
        reason();
        closedBy();
        sooner();
        open();
        next();
        nextOfAll();
        listed();
        listedOfOneDay();
        mustGo();
        best();
        openWithout();
        openWithoutBits();
        readingChangesNothing();
        objectsAreApart();
        CHECKS.finish();
    }

    private static int d(int year, int month, int day) {
        return Checks.d(year, month, day);
    }

    /** One of each: the only piece has all, so that no answer is NONE where there is one. */
    private static ClosedUntil one() {
        return Checks.told("person p born 1900 1 1 died 1950 1 1;deposit d 1900 1 1;piece a 1900 1 1 of p from d;"
            + "close content a 5;");
    }

    private static ClosedUntil emptied() {
        ClosedUntil x = one();
        x.review(0, 0, 1);
        x.text(0);
        return x;
    }

    // ---- promise 1

    /** "Nothing is told": each call, where it answers for none and where it refuses. */
    private static void nothingTold(ClosedUntil x) {
        for (int what = 0; what < 8; what++) {
            CHECKS.due("count(" + what + ")", x.count(what), 0);
            CHECKS.due("piece(0, " + what + ")", x.piece(0, what), -2);
            CHECKS.due("person(0, " + what + ")", x.person(0, what), -2);
            CHECKS.due("closure(0, " + what + ")", x.closure(0, what), -2);
        }
        CHECKS.due("term(0, 0)", x.term(0, 0), -1);
        CHECKS.due("ends(0, 0)", x.ends(0, 0), -1);
        CHECKS.due("opens(0, 0)", x.opens(0, 0), -1);
        CHECKS.due("allOf(0, 0)", x.allOf(0, 0), -1);
        CHECKS.due("reason(0, 0)", x.reason(0, 0), -1);
        CHECKS.due("closedBy(0, 0)", x.closedBy(0, 0), -1);
        CHECKS.dueSooner(x, 0, 0, 0, NO_SUCH);
        CHECKS.due("open(0, 0)", x.open(0, 0), 0);
        CHECKS.due("open(LATE, 15)", x.open(LATE, 15), 0);
        CHECKS.due("open(-1, 0)", x.open(-1, 0), -1);
        CHECKS.due("next(-1, 0)", x.next(-1, 0), -1);
        CHECKS.due("next(0, 0)", x.next(0, 0), -1);
        CHECKS.due("listed(0, 0)", x.listed(0, 0), -1);
        CHECKS.due("mustGo(0, 0, 0)", x.mustGo(0, 0, 0), -1);
        CHECKS.due("best(0, 0, 0)", x.best(0, 0, 0), 0);
        CHECKS.due("best(LATE, 15, 3)", x.best(LATE, 15, 3), 0);
        CHECKS.due("best(0, 0, 4)", x.best(0, 0, 4), -1);
        CHECKS.due("openWithout(0, 0, 0)", x.openWithout(0, 0, 0), 0);
        CHECKS.due("openWithout(0, 0, 1)", x.openWithout(0, 0, 1), -1);
        CHECKS.due("review(0, 0, 0)", x.review(0, 0, 0), -1);
        CHECKS.due("lift(0, 0)", x.lift(0, 0), -2);
        CHECKS.due("lift(0, -1)", x.lift(0, -1), -2);
        CHECKS.due("died(0, 0)", x.died(0, 0), -2);
        CHECKS.due("died(0, -1)", x.died(0, -1), -2);
        CHECKS.due("put(0, -1)", x.put(0, -1), -2);
        CHECKS.due("put(0, 0)", x.put(0, 0), -2);
        CHECKS.due("undo()", x.undo(), -1);
        CHECKS.due("keep(0, true)", x.keep(0, true), false);
        CHECKS.due("keep(1, true)", x.keep(1, true), false);
        CHECKS.due("text(1)", x.text(1), -1);
        CHECKS.due("count(6)", x.count(6), 0);
        CHECKS.due("keep(0, false)", x.keep(0, false), true);
        CHECKS.due("keep(0, true), laid", x.keep(0, true), true);
        CHECKS.due("keep(1, true), not laid", x.keep(1, true), false);
    }

    private static void nothingToldOfOneKind() {
        ClosedUntil people = Checks.told("person p;");
        CHECKS.due("only people: piece", people.piece(0, 0), -2);
        CHECKS.due("only people: person", people.person(0, 2), 0);
        CHECKS.due("only people: open", people.open(0, 0), 0);
        ClosedUntil pieces = Checks.told("piece a 1900 1 1;");
        CHECKS.due("only pieces: closure", pieces.closure(0, 0), -2);
        CHECKS.due("only pieces: term", pieces.term(0, 0), -1);
        CHECKS.dueSooner(pieces, 0, 0, 0, NO_SUCH);
        CHECKS.due("only pieces: closedBy", pieces.closedBy(0, 0), 0);
        CHECKS.due("only pieces: mustGo", pieces.mustGo(0, 0, 0), 0);
        CHECKS.due("only pieces: best", pieces.best(0, 0, 3), 0);
        CHECKS.due("only pieces: openWithout", pieces.openWithout(0, 0, 0), 1);
        CHECKS.due("only pieces: openWithout others", pieces.openWithout(0, 0, 1), -1);
        ClosedUntil deposits = Checks.told("deposit d 1900 1 1;close deposit d 9;");
        CHECKS.due("no pieces: closure", deposits.closure(0, 6), 0);
        CHECKS.due("no pieces: best", deposits.best(0, 0, 3), 0);
        CHECKS.due("no pieces: openWithout", deposits.openWithout(0, 0, 1), 0);
        CHECKS.due("no pieces: listed", deposits.listed(0, 0), -1);
        CHECKS.due("no pieces: next", deposits.next(-1, 0), -1);
    }

    // ---- promises 7 to 9

    /** "-2: others, none such": the last piece and one more, the last what and one more. */
    private static void piece() {
        for (int what = 0; what < 6; what++) {
            int w = what;
            CHECKS.dueRange("piece(p, " + w + ") of one", p -> one().piece(p, w), 0, 0, -2);
            CHECKS.dueRange("piece(p, " + w + ") of all", p -> Full.told().piece(p, w), 0, 23, -2);
        }
        CHECKS.dueRange("piece(0, what)", what -> one().piece(0, what), 0, 5, -2);
        CHECKS.dueRange("piece(23, what)", what -> Full.told().piece(23, what), 0, 5, -2);
        CHECKS.due("piece(-1, -1)", one().piece(-1, -1), -2);
    }

    /** "its PARENT (NONE) .. DEPOSIT (NONE) .. how deep it lies (0 without a PARENT)". */
    private static void pieceOfNone() {
        ClosedUntil x = Checks.told("deposit d 1900 1 1;piece a 1700 1 1;piece b in a 2299 12 31 from d;");
        CHECKS.due("no PARENT", x.piece(0, 0), -1);
        CHECKS.due("PARENT 0", x.piece(1, 0), 0);
        CHECKS.due("last DAY 0", x.piece(0, 1), 0);
        CHECKS.due("last DAY, the last", x.piece(1, 1), LAST);
        CHECKS.due("no PEOPLE", x.piece(0, 2), 0);
        CHECKS.due("no DEPOSIT", x.piece(0, 3), -1);
        CHECKS.due("DEPOSIT 0", x.piece(1, 3), 0);
        CHECKS.due("UNDER it: it, too", x.piece(1, 4), 2);
        CHECKS.due("not deep", x.piece(0, 5), 0);
        CHECKS.due("one deep", x.piece(1, 5), 1);
        CHECKS.due("the last piece alone", Full.told().piece(23, 4), 1 << 23);
        ClosedUntil y = Checks.told(Full.people(8) + Full.deposits(4) + "piece a 1900 1 1 of pe of pf of pg of ph from dd;");
        CHECKS.due("the last PEOPLE", y.piece(0, 2), 240);
        CHECKS.due("the last DEPOSIT", y.piece(0, 3), 3);
    }

    private static void person() {
        for (int what = 0; what < 3; what++) {
            int w = what;
            CHECKS.dueRange("person(p, " + w + ") of one", p -> one().person(p, w), 0, 0, -2);
            CHECKS.dueRange("person(p, " + w + ") of all", p -> Full.told().person(p, w), 0, 7, -2);
        }
        CHECKS.dueRange("person(0, what)", what -> one().person(0, what), 0, 2, -2);
        CHECKS.dueRange("person(7, what)", what -> Full.told().person(7, what), 0, 2, -2);
        CHECKS.due("person(-1, -1)", one().person(-1, -1), -2);
    }

    /** "birth (NONE), 1: death now (NONE)". */
    private static void personOfNone() {
        ClosedUntil x = Checks.told("person a;person b born 1700 1 1 died 1700 1 1;person c born 2299 12 31;"
            + "person e died 2299 12 31;" + Full.pieces(22) + "piece y 1900 1 1 of a;piece z 1900 1 1 of b of a;");
        CHECKS.due("no birth", x.person(0, 0), -1);
        CHECKS.due("no death", x.person(0, 1), -1);
        CHECKS.due("birth on DAY 0", x.person(1, 0), 0);
        CHECKS.due("death on DAY 0", x.person(1, 1), 0);
        CHECKS.due("birth on the last DAY", x.person(2, 0), LAST);
        CHECKS.due("birth without death", x.person(2, 1), -1);
        CHECKS.due("death without birth", x.person(3, 0), -1);
        CHECKS.due("death on the last DAY", x.person(3, 1), LAST);
        CHECKS.due("the last PIECES", x.person(0, 2), 3 << 22);
        CHECKS.due("the last PIECE", x.person(1, 2), 1 << 23);
        CHECKS.due("no PIECES", x.person(2, 2), 0);
    }

    private static void closure() {
        for (int what = 0; what < 7; what++) {
            int w = what;
            CHECKS.dueRange("closure(c, " + w + ") of one", c -> one().closure(c, w), 0, 0, -2);
            CHECKS.dueRange("closure(c, " + w + ") of all", c -> Full.told().closure(c, w), 0, 11, -2);
        }
        CHECKS.dueRange("closure(0, what)", what -> one().closure(0, what), 0, 6, -2);
        CHECKS.dueRange("closure(11, what)", what -> Full.told().closure(11, what), 0, 6, -2);
        CHECKS.due("closure(-1, -1)", one().closure(-1, -1), -2);
    }

    /** "2: 1 it is whole, 3: REVIEWS, 4: the DAY on which it is LIFTED (NONE)". */
    private static void closureOfNone() {
        ClosedUntil x = Checks.told("person p;deposit d 1900 1 1;piece a 1900 1 1;piece b in a 1900 1 1 of p from d;"
            + "close content b 0 whole;close person p 0 0 0;close deposit d 0 whole;close until b 1700 1 1;");
        int[][] want = {{0, 1, 1}, {1, 0, 0}, {2, 0, 1}, {3, 1, 0}};
        for (int c = 0; c < 4; c++) {
            for (int what = 0; what < 3; what++) {
                CHECKS.due("closure(" + c + ", " + what + ")", x.closure(c, what), want[c][what]);
            }
            CHECKS.due("no REVIEWS", x.closure(c, 3), 0);
            CHECKS.due("not LIFTED", x.closure(c, 4), -1);
            CHECKS.due("TARGETS", x.closure(c, 5), 2);
            CHECKS.due("closes", x.closure(c, 6), 2);
        }
        x.lift(0, 0);
        x.lift(1, LAST);
        CHECKS.due("LIFTED on DAY 0", x.closure(0, 4), 0);
        CHECKS.due("LIFTED on the last DAY", x.closure(1, 4), LAST);
        CHECKS.due("the last of all", Full.told().closure(11, 5), 1 << 11);
    }

    // ---- promises 10 to 16

    /** "TERM; NONE: none such, the PIECE is no TARGET". */
    private static void term() {
        CHECKS.dueRange("term(c, 0) of one", c -> one().term(c, 0), 0, 0, -1);
        CHECKS.dueRange("term(0, p) of one", p -> one().term(0, p), 0, 0, -1);
        ClosedUntil x = Full.told();
        for (int c = 0; c < 12; c++) {
            for (int p = 0; p < 24; p++) {
                int want = c == p ? d(1800 + c, 1, c + 1) : -1;
                CHECKS.due("term(" + c + ", " + p + ")", x.term(c, p), want);
            }
        }
        CHECKS.dueRefused("term(c, 11)", c -> x.term(c, 11), -1, 12, -1);
        CHECKS.dueRefused("term(11, p)", p -> x.term(11, p), -1, 24, -1);
        CHECKS.due("term(12, 12)", x.term(12, 12), -1);
    }

    /** "ENDS; NONE: none such, it does not close the PIECE". */
    private static void ends() {
        CHECKS.dueRange("ends(c, 0) of one", c -> one().ends(c, 0), 0, 0, -1);
        CHECKS.dueRange("ends(0, p) of one", p -> one().ends(0, p), 0, 0, -1);
        ClosedUntil x = Full.told();
        x.put(23, 11);
        for (int c = 0; c < 12; c++) {
            for (int p = 0; p < 24; p++) {
                int want = c == p || c == 11 && p == 23 ? d(1800 + c, 1, c + 1) : -1;
                CHECKS.due("ends(" + c + ", " + p + ")", x.ends(c, p), want);
            }
        }
        CHECKS.due("no TARGET, but closed", x.term(11, 23), -1);
        CHECKS.dueRefused("ends(c, 11)", c -> x.ends(c, 11), -1, 12, -1);
        CHECKS.dueRefused("ends(11, p)", p -> x.ends(11, p), -1, 24, -1);
        CHECKS.due("ends(12, 12)", x.ends(12, 12), -1);
    }

    private interface OfPieceAndReaders {
        int ask(ClosedUntil x, int piece, int readers);
    }

    /** "READERS (0 to 15); NONE: others, none such". */
    private static void duePieceAndReaders(String call, OfPieceAndReaders asked) {
        CHECKS.dueRange(call + "(p, 0) of one", p -> asked.ask(one(), p, 0), 0, 0, -1);
        ClosedUntil x = Full.told();
        CHECKS.dueRange(call + "(p, 0) of all", p -> asked.ask(x, p, 0), 0, 23, -1);
        CHECKS.dueRange(call + "(p, 15) of all", p -> asked.ask(x, p, 15), 0, 23, -1);
        CHECKS.dueRange(call + "(0, readers)", r -> asked.ask(x, 0, r), 0, 15, -1);
        CHECKS.dueRange(call + "(23, readers)", r -> asked.ask(x, 23, r), 0, 15, -1);
        CHECKS.due(call + "(-1, 16)", asked.ask(x, -1, 16), -1);
    }

    private static void opens() {
        duePieceAndReaders("opens", ClosedUntil::opens);
    }

    /** "NONE: likewise". */
    private static void allOf() {
        duePieceAndReaders("allOf", ClosedUntil::allOf);
    }

    /** "REASON; NONE: there is none, others, none such". */
    private static void reason() {
        ClosedUntil x = Full.told();
        CHECKS.due("the first piece", x.reason(0, 0), 0);
        CHECKS.due("the last that is closed", x.reason(11, 0), 11);
        CHECKS.due("there is none", x.reason(12, 0), -1);
        CHECKS.due("there is none for readers", x.reason(11, 15), -1);
        CHECKS.due("readers of all other sorts", x.reason(11, 14), 11);
        CHECKS.dueRefused("reason(p, 0)", p -> x.reason(p, 0), -1, 24, -1);
        CHECKS.dueRefused("reason(11, readers)", r -> x.reason(11, r), -1, 16, -1);
        CHECKS.due("reason(11, 16)", x.reason(11, 16), -1);
        CHECKS.due("reason(11, 32)", x.reason(11, 32), -1);
        CHECKS.dueRefused("reason(p, 0) of one", p -> one().reason(p, 0), -1, 1, -1);
    }

    /** "on a DAY (0 to LATE), as bits; NONE: none such". */
    private static void closedBy() {
        CHECKS.dueRange("closedBy(p, 0) of one", p -> one().closedBy(p, 0), 0, 0, -1);
        ClosedUntil x = Full.told();
        CHECKS.dueRange("closedBy(p, 0) of all", p -> x.closedBy(p, 0), 0, 23, -1);
        CHECKS.dueRange("closedBy(11, day)", day -> x.closedBy(11, day), 0, LATE, -1);
        CHECKS.due("the last CLOSURE", x.closedBy(11, 0), 1 << 11);
        ClosedUntil y = Checks.told("piece a 1900 1 1;" + "close content a 1;".repeat(12));
        CHECKS.due("all CLOSURES", y.closedBy(0, 0), ALL_CLOSURES);
        CHECKS.due("none of them", y.closedBy(0, LATE), 0);
    }

    /** "NoSuchElementException: others, none such". */
    private static void sooner() {
        ClosedUntil x = Full.told();
        CHECKS.dueSooner(x, 0, 0, 0, "" + d(1800, 1, 1));
        CHECKS.dueSooner(x, 11, 11, 0, "" + d(1811, 1, 12));
        CHECKS.dueSooner(x, 11, 11, 15, "0");
        CHECKS.dueSooner(x, 11, 23, 0, "0");
        CHECKS.dueSooner(x, 0, 11, 0, "0");
        int[][] refused = {{-1, 0, 0}, {12, 0, 0}, {12, 12, 0}, {MIN, 0, 0}, {MAX, 0, 0}, {0, -1, 0}, {0, 24, 0},
            {0, MIN, 0}, {0, MAX, 0}, {0, 0, -1}, {0, 0, 16}, {0, 0, MIN}, {0, 0, MAX}, {-1, -1, -1}};
        for (int[] r : refused) {
            CHECKS.dueSooner(x, r[0], r[1], r[2], NO_SUCH);
        }
        CHECKS.dueSooner(one(), 0, 0, 0, "" + d(1905, 1, 1));
        CHECKS.dueSooner(one(), 1, 0, 0, NO_SUCH);
        CHECKS.dueSooner(one(), 0, 1, 0, NO_SUCH);
        ClosedUntil y = Checks.told("piece a 2299 1 1;close content a 1;close until a 2299 12 31;");
        CHECKS.dueSooner(y, 0, 0, 0, "1");
        CHECKS.dueSooner(y, 1, 0, 0, "0");
        CHECKS.dueSooner(y, 0, 0, 8, "" + LATE);
        ClosedUntil z = Checks.told("piece a 1900 1 1;close content a 1;close content a 1;");
        CHECKS.dueSooner(z, 0, 0, 0, "0");
        CHECKS.dueSooner(z, 1, 0, 0, "0");
    }

    // ---- promises 17 to 19

    /** "on a DAY (0 to LATE) for READERS, as bits; NONE: others". */
    private static void open() {
        ClosedUntil x = Full.told();
        CHECKS.dueRange("open(day, 0)", day -> x.open(day, 0), 0, LATE, -1);
        CHECKS.dueRange("open(day, 15)", day -> x.open(day, 15), 0, LATE, -1);
        CHECKS.dueRange("open(0, readers)", r -> x.open(0, r), 0, 15, -1);
        CHECKS.dueRange("open(LATE, readers)", r -> x.open(LATE, r), 0, 15, -1);
        CHECKS.due("without closures", x.open(0, 0), ALL_PIECES - ALL_CLOSURES);
        CHECKS.due("all", x.open(LATE, 0), ALL_PIECES);
        CHECKS.due("all, for readers", x.open(0, 1), ALL_PIECES);
        CHECKS.due("none", one().open(0, 0), 0);
        CHECKS.due("open(-1, 16)", x.open(-1, 16), -1);
    }

    /** "The first DAY behind one (0 to LATE ..) ..; NONE: there is none, others". */
    private static void next() {
        ClosedUntil x = Checks.told("piece a 1700 1 1;piece b 1700 1 2;piece c 2299 12 31;piece e 2299 12 31;"
            + "close content a 0;close content b 0;close content c 0;close content e 1;");
        CHECKS.due("of all", x.next(-1, 0), 0);
        CHECKS.due("behind DAY 0", x.next(0, 0), 1);
        CHECKS.due("behind DAY 1", x.next(1, 0), LAST);
        CHECKS.due("the day ahead of the last", x.next(LAST - 1, 0), LAST);
        CHECKS.due("behind the last DAY", x.next(LAST, 0), LATE);
        CHECKS.due("behind LATE", x.next(LATE, 0), -1);
        CHECKS.due("for readers of content", x.next(-1, 1), 0);
        CHECKS.due("for readers of content, behind DAY 0", x.next(0, 1), -1);
        CHECKS.dueRefused("next(day, 0)", day -> x.next(day, 0), -2, LATE + 1, -1);
        CHECKS.dueRefused("next(-1, readers)", r -> x.next(-1, r), -1, 16, -1);
        CHECKS.dueRefused("next(0, readers)", r -> x.next(0, r), -1, 16, -1);
        CHECKS.due("next(0, 14)", x.next(0, 14), 1);
    }

    /** "NONE: of all": the very first, also where it is behind DAY 0. */
    private static void nextOfAll() {
        ClosedUntil x = one();
        CHECKS.due("of all", x.next(-1, 0), d(1905, 1, 1));
        CHECKS.due("behind DAY 0", x.next(0, 0), d(1905, 1, 1));
        CHECKS.due("the day ahead", x.next(d(1904, 12, 31), 0), d(1905, 1, 1));
        CHECKS.due("the day", x.next(d(1905, 1, 1), 0), -1);
        ClosedUntil y = Checks.told("piece a 1900 1 1;piece b 1900 1 1;close content a 1;close content b 1;");
        CHECKS.due("two of one DAY", y.next(-1, 0), d(1901, 1, 1));
        CHECKS.due("two of one DAY", y.next(d(1901, 1, 1), 0), -1);
    }

    /** "The k-th PIECE (from 0) ..; NONE: none such, others". */
    private static void listed() {
        duePieceAndReaders("listed", ClosedUntil::listed);
        ClosedUntil x = Full.told();
        for (int k = 0; k < 12; k++) {
            CHECKS.due("open from DAY 0", x.listed(k, 0), 12 + k);
            CHECKS.due("by their DAYS", x.listed(12 + k, 0), k);
            CHECKS.due("all on DAY 0, by numbers", x.listed(k, 1), k);
            CHECKS.due("all on DAY 0, by numbers", x.listed(12 + k, 1), 12 + k);
        }
    }

    /** "of one DAY the deeper one first, then by numbers"; a DAY comes ahead of both. */
    private static void listedOfOneDay() {
        ClosedUntil x = Checks.told("piece a 1900 1 1;piece b in a 1900 1 1;piece c in b 1900 1 1;piece e in b 1900 1 1;"
            + "piece f 1900 1 1;piece g in f 1900 1 1;close content e 1;");
        int[] want = {2, 1, 5, 0, 4, 3};
        for (int k = 0; k < want.length; k++) {
            CHECKS.due("listed(" + k + ", 0)", x.listed(k, 0), want[k]);
        }
        int[] all = {2, 3, 1, 5, 0, 4};
        for (int k = 0; k < all.length; k++) {
            CHECKS.due("listed(" + k + ", 1)", x.listed(k, 1), all[k]);
        }
        x.put(4, 2);
        int[] deeper = {5, 4, 2, 1, 0, 3};
        for (int k = 0; k < deeper.length; k++) {
            CHECKS.due("listed(" + k + ", 0), put deeper", x.listed(k, 0), deeper[k]);
        }
    }

    // ---- promises 20 to 22

    /** "on a DAY (0 to LATE) for READERS, as bits; NONE: others". */
    private static void mustGo() {
        CHECKS.dueRange("mustGo(p, 0, 0) of one", p -> one().mustGo(p, 0, 0), 0, 0, -1);
        ClosedUntil x = Full.told();
        CHECKS.dueRange("mustGo(p, 0, 0)", p -> x.mustGo(p, 0, 0), 0, 23, -1);
        CHECKS.dueRange("mustGo(11, day, 0)", day -> x.mustGo(11, day, 0), 0, LATE, -1);
        CHECKS.dueRange("mustGo(11, 0, readers)", r -> x.mustGo(11, 0, r), 0, 15, -1);
        CHECKS.due("mustGo(24, LATE + 1, 16)", x.mustGo(24, LATE + 1, 16), -1);
        CHECKS.due("the last CLOSURE", x.mustGo(11, 0, 0), 1 << 11);
        CHECKS.due("the day ahead", x.mustGo(11, d(1811, 1, 11), 0), 1 << 11);
        CHECKS.due("the day", x.mustGo(11, d(1811, 1, 12), 0), 0);
        CHECKS.due("for readers", x.mustGo(11, 0, 1), 0);
        ClosedUntil y = Checks.told("piece a 1900 1 1;piece b in a 2299 1 1;" + "close content a 1;".repeat(11)
            + "close content b 1;");
        CHECKS.due("all CLOSURES, of it and below", y.mustGo(0, 0, 0), ALL_CLOSURES);
        CHECKS.due("all CLOSURES, of it and above", y.mustGo(1, 0, 0), ALL_CLOSURES);
        CHECKS.due("only one, below", y.mustGo(0, LAST, 0), 1 << 11);
        CHECKS.due("none, LATE", y.mustGo(0, LATE, 0), 0);
    }

    /** "BEST TO LIFT (n 0 to 3): CLOSURES, as bits; NONE: others". */
    private static void best() {
        ClosedUntil x = Full.told();
        CHECKS.dueRange("best(day, 0, 3)", day -> x.best(day, 0, 3), 0, LATE, -1);
        CHECKS.dueRange("best(0, readers, 3)", r -> x.best(0, r, 3), 0, 15, -1);
        CHECKS.dueRange("best(0, 0, n)", n -> x.best(0, 0, n), 0, 3, -1);
        CHECKS.dueRange("best(LATE, 15, n)", n -> x.best(LATE, 15, n), 0, 3, -1);
        CHECKS.due("none at most", x.best(0, 0, 0), 0);
        CHECKS.due("one at most", x.best(0, 0, 1), 1);
        CHECKS.due("two at most", x.best(0, 0, 2), 3);
        CHECKS.due("three at most", x.best(0, 0, 3), 7);
        CHECKS.due("the last three are left", x.best(d(1809, 1, 9), 0, 3), 7 << 9);
        CHECKS.due("the last two are left", x.best(d(1810, 1, 10), 0, 3), 3 << 10);
        CHECKS.due("the last is left", x.best(d(1811, 1, 11), 0, 3), 1 << 11);
        CHECKS.due("none is left", x.best(d(1811, 1, 12), 0, 3), 0);
    }

    /** "How many PIECES are open on a DAY without some CLOSURES (bits); NONE: others". */
    private static void openWithout() {
        ClosedUntil x = Full.told();
        CHECKS.dueRange("openWithout(day, 0, 0)", day -> x.openWithout(day, 0, 0), 0, LATE, -1);
        CHECKS.dueRange("openWithout(0, readers, 0)", r -> x.openWithout(0, r, 0), 0, 15, -1);
        CHECKS.dueRange("openWithout(0, 0, closures)", c -> x.openWithout(0, 0, c), 0, ALL_CLOSURES, -1);
        CHECKS.due("without none", x.openWithout(0, 0, 0), 12);
        CHECKS.due("without the first", x.openWithout(0, 0, 1), 13);
        CHECKS.due("without the last", x.openWithout(0, 0, 1 << 11), 13);
        CHECKS.due("without all", x.openWithout(0, 0, ALL_CLOSURES), 24);
        CHECKS.due("LATE", x.openWithout(LATE, 0, 0), 24);
        CHECKS.due("for readers", x.openWithout(0, 1, 0), 24);
    }

    /** A bit of a CLOSURE that is not told is one of the others. */
    private static void openWithoutBits() {
        CHECKS.dueRange("of one", c -> one().openWithout(0, 0, c), 0, 1, -1);
        ClosedUntil x = Checks.told("piece a 1900 1 1;close content a 1;close content a 1;close content a 1;");
        CHECKS.dueRange("of three", c -> x.openWithout(0, 0, c), 0, 7, -1);
        CHECKS.due("two of three", x.openWithout(0, 0, 6), 0);
        CHECKS.due("three of three", x.openWithout(0, 0, 7), 1);
        for (int bit = 3; bit < 32; bit++) {
            CHECKS.due("bit " + bit, x.openWithout(0, 0, 7 | 1 << bit), -1);
        }
    }

    // ---- all of them

    /** Calls that only read, at their ends and refused, leave all as it was. */
    private static void readingChangesNothing() {
        Twins.dueAsBefore(CHECKS, "reading", x -> {
            Checks.tell(x, "person p born 1900 1 1;deposit d 1900 1 1;piece a 1900 1 1 of p from d;"
                + "piece b in a 1900 1 1;close content a 9;close person p 1 2 3;");
            x.keep(0, false);
            x.review(0, 5, 5);
            x.put(1, -1);
            x.keep(1, false);
            x.lift(1, 9);
            Checks.feedBytes(x, "person a;person b;  ".getBytes());
        }, x -> {
            int[] values = {MIN, -2, -1, 0, 1, 2, 16, LATE, MAX};
            for (int v : values) {
                readAll(x, v, 0);
                readAll(x, 0, v);
            }
        });
    }

    private static void readAll(ClosedUntil x, int a, int b) {
        x.day(a, b, 1);
        x.date(a, b);
        x.plus(a, b);
        x.piece(a, b);
        x.person(a, b);
        x.closure(a, b);
        x.term(a, b);
        x.ends(a, b);
        x.opens(a, b);
        x.allOf(a, b);
        x.reason(a, b);
        x.closedBy(a, b);
        Checks.sooner(x, a, b, 0);
        x.open(a, b);
        x.next(a, b);
        x.listed(a, b);
        x.mustGo(a, b, 0);
        x.best(a, b, 3);
        x.openWithout(a, 0, b);
        x.count(a);
    }

    /** What one object is told, another does not know. */
    private static void objectsAreApart() {
        ClosedUntil x = one();
        ClosedUntil y = new ClosedUntil();
        x.review(0, 0, 1);
        x.keep(0, false);
        Checks.feedBytes(x, new byte[20]);
        nothingTold(y);
        CHECKS.due("x has its tape", x.count(7), 20);
        CHECKS.due("x has its piece", x.count(0), 1);
        CHECKS.due("x has its REVIEW", x.opens(0, 0), d(1906, 1, 1));
    }
}

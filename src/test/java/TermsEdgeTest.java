/** TARGETS, TERM, ENDS, OPENS, REASON, REVIEWS and BEST TO LIFT (Terms, ==== 2): a method for each sentence. */
public final class TermsEdgeTest {
    private static final Checks CHECKS = new Checks();
    private static final int LATE = ClosedUntil.LATE;
    private static final int LAST = LATE - 1;

    public static void main(String[] args) {
        underItself();
        under24Deep();
        targetsOfContentAndUntil();
        targetsOfAPerson();
        targetsOfADeposit();
        noTargets();
        termOfContent();
        termOfAPerson();
        termOfADeposit();
        termOfUntil();
        whole();
        wholeAtTheEnd();
        wholeAheadOfReviews();
        reviewOnTheTerm();
        reviewNotAheadOfItsDay();
        reviewsByTheirDays();
        reviewsOfOneDay();
        reviewsAtTheEnds();
        reviewsOfTheLeapDay();
        fiveReviews();
        lifted();
        liftedAtLast();
        endsIsTheLatest();
        opensWithoutClosures();
        opensIsTheLatest();
        closedOnAllDaysAhead();
        readersBySorts();
        allOfIsTheLatest();
        reasonIsTheFirst();
        reasonIsBehind0();
        closedAheadOfItsEnds();
        bestOfNoneNeeded();
        bestIsTheMost();
        bestIsTheFewest();
        bestIsTheLeastAsBits();
        bestTakesAllTwelve();
        CHECKS.finish();
    }

    private static int d(int year, int month, int day) {
        return Checks.d(year, month, day);
    }

    // ---- UNDER and TARGETS

    /** "A PIECE is UNDER itself, its PARENT, and all that is UNDER". */
    private static void underItself() {
        ClosedUntil x = Checks.told("piece a 1900 1 1;piece b in a 1900 1 1;piece c in b 1900 1 1;piece e in a 1900 1 1;");
        CHECKS.due("alone", x.piece(2, 4), 4);
        CHECKS.due("with a child", x.piece(1, 4), 6);
        CHECKS.due("with all", x.piece(0, 4), 15);
        CHECKS.due("beside them", x.piece(3, 4), 8);
    }

    private static void under24Deep() {
        StringBuilder text = new StringBuilder("piece qa 1900 1 1;");
        for (int p = 1; p < 24; p++) {
            text.append("piece ").append(Full.name('q', p)).append(" in ").append(Full.name('q', p - 1))
                .append(" 1900 1 1;");
        }
        ClosedUntil x = Checks.told(text + "close content qa 3;close content qx 4;");
        for (int p = 0; p < 24; p++) {
            CHECKS.due("how deep", x.piece(p, 5), p);
            CHECKS.due("all below", x.piece(p, 4), (1 << 24) - (1 << p));
            CHECKS.due("closed by the first", x.ends(0, p), d(1903, 1, 1));
            CHECKS.due("closed by the last", x.ends(1, p), p == 23 ? d(1904, 1, 1) : -1);
        }
        CHECKS.due("TARGETS", x.closure(0, 5), 1);
        CHECKS.due("all are closed", x.closure(0, 6), (1 << 24) - 1);
        CHECKS.due("TARGETS", x.closure(1, 5), 1 << 23);
        CHECKS.due("the last is closed", x.closure(1, 6), 1 << 23);
        CHECKS.due("ALL OF", x.allOf(0, 0), d(1904, 1, 1));
        CHECKS.due("CLOSURES that must be gone", x.mustGo(0, 0, 0), 3);
    }

    /** "content, until: that PIECE .. It closes all PIECES UNDER a TARGET". */
    private static void targetsOfContentAndUntil() {
        ClosedUntil x = Checks.told("piece a 1900 1 1;piece b in a 1900 1 1;piece c in b 1900 1 1;"
            + "close content b 1;close until b 1950 1 1;");
        for (int c = 0; c < 2; c++) {
            CHECKS.due("TARGETS", x.closure(c, 5), 2);
            CHECKS.due("closes", x.closure(c, 6), 6);
            CHECKS.due("what lies above is no TARGET", x.term(c, 0), -1);
            CHECKS.due("what lies above is not closed", x.ends(c, 0), -1);
            CHECKS.due("what lies below is no TARGET", x.term(c, 2), -1);
            CHECKS.due("what lies below is closed", x.ends(c, 2), x.term(c, 1));
        }
    }

    /** "person: all PIECES that have that one among their PEOPLE": first, last and only one. */
    private static void targetsOfAPerson() {
        ClosedUntil x = Checks.told(Full.people(8) + "piece a 1900 1 1 of ph;piece b 1900 1 1 of pa of pb of pc of ph;"
            + "piece c 1900 1 1 of ph of pa;piece e 1900 1 1 of pa;piece f in e 1900 1 1;close person ph 1 1 1;"
            + "close person pa 1 1 1;");
        CHECKS.due("TARGETS of the last", x.closure(0, 5), 7);
        CHECKS.due("TARGETS of the first", x.closure(1, 5), 14);
        CHECKS.due("closed by the first", x.closure(1, 6), 30);
        CHECKS.due("person(7, 2)", x.person(7, 2), 7);
        CHECKS.due("person(0, 2)", x.person(0, 2), 14);
        CHECKS.due("person(6, 2), in none", x.person(6, 2), 0);
    }

    /** "deposit: all that are from it". */
    private static void targetsOfADeposit() {
        ClosedUntil x = Checks.told(Full.deposits(4) + "piece a 1900 1 1 from dd;piece b in a 1900 1 1 from da;"
            + "piece c in b 1900 1 1;piece e 1900 1 1 from dd;close deposit dd 1;close deposit da 1;");
        CHECKS.due("TARGETS of the last", x.closure(0, 5), 9);
        CHECKS.due("closed by the last", x.closure(0, 6), 15);
        CHECKS.due("TARGETS of the first", x.closure(1, 5), 2);
        CHECKS.due("closed by the first", x.closure(1, 6), 6);
    }

    private static void noTargets() {
        ClosedUntil x = Checks.told("person p;deposit d 1900 1 1;piece a 1900 1 1;close person p 1 2 3;"
            + "close deposit d 9;");
        for (int c = 0; c < 2; c++) {
            CHECKS.due("no TARGETS", x.closure(c, 5), 0);
            CHECKS.due("closes none", x.closure(c, 6), 0);
            CHECKS.due("no TERM", x.term(c, 0), -1);
            CHECKS.due("no ENDS", x.ends(c, 0), -1);
            CHECKS.dueSooner(x, c, 0, 0, "0");
        }
        CHECKS.due("opens(0, 0)", x.opens(0, 0), 0);
        CHECKS.due("reason(0, 0)", x.reason(0, 0), -1);
        CHECKS.due("closedBy(0, 0)", x.closedBy(0, 0), 0);
    }

    // ---- TERM

    /** "content: its last DAY and the YEARS". */
    private static void termOfContent() {
        ClosedUntil x = Checks.told("piece a 1700 1 1;piece b 2100 1 1;piece c 2099 12 31;piece e 1896 2 29;"
            + "close content a 0;close content a 200;close content b 200;close content c 200;close content e 4;"
            + "close content e 8;close content b 0;");
        CHECKS.due("0 YEARS of DAY 0", x.term(0, 0), 0);
        CHECKS.due("200 YEARS of DAY 0", x.term(1, 0), d(1900, 1, 1));
        CHECKS.due("200 YEARS behind 2299", x.term(2, 1), LATE);
        CHECKS.due("200 YEARS to the last DAY", x.term(3, 2), LAST);
        CHECKS.due("no 29th of February", x.term(4, 3), d(1900, 2, 28));
        CHECKS.due("a 29th of February", x.term(5, 3), d(1904, 2, 29));
        CHECKS.due("0 YEARS", x.term(6, 1), d(2100, 1, 1));
    }

    /** "person: if the death is told, it ..; else, if the birth is, it ..; else the TARGET's last DAY ..". */
    private static void termOfAPerson() {
        ClosedUntil x = Checks.told("person a born 1700 1 1 died 1700 1 1;person b born 1700 1 1;person c died 1700 1 1;"
            + "person e;piece q 1900 1 1 of a of b of c of e;piece r 1950 1 1 of e;close person a 1 2 3;"
            + "close person b 1 2 3;close person c 1 2 3;close person e 1 2 3;");
        CHECKS.due("death and birth on DAY 0", x.term(0, 0), d(1701, 1, 1));
        CHECKS.due("birth alone, on DAY 0", x.term(1, 0), d(1702, 1, 1));
        CHECKS.due("death alone, on DAY 0", x.term(2, 0), d(1701, 1, 1));
        CHECKS.due("neither", x.term(3, 0), d(1903, 1, 1));
        CHECKS.due("neither, another TARGET", x.term(3, 1), d(1953, 1, 1));
        x.died(0, -1);
        CHECKS.due("the death no more: the birth", x.term(0, 0), d(1702, 1, 1));
        x.died(2, -1);
        CHECKS.due("the death no more: the TARGET", x.term(2, 0), d(1903, 1, 1));
        x.died(1, LAST);
        CHECKS.due("a death on the last DAY", x.term(1, 0), LATE);
        x.died(3, d(1896, 2, 29));
        CHECKS.due("a death, one for all TARGETS", x.term(3, 0), d(1897, 2, 28));
        CHECKS.due("a death, one for all TARGETS", x.term(3, 1), d(1897, 2, 28));
    }

    /** "deposit: its DAY and the YEARS": not the TARGET's. */
    private static void termOfADeposit() {
        ClosedUntil x = Checks.told("deposit d 1700 1 1;deposit e 2100 1 1;piece a 1900 1 1 from d;"
            + "piece b 1900 1 1 from e;close deposit d 0;close deposit d 200;close deposit e 199;close deposit e 200;");
        CHECKS.due("0 YEARS of DAY 0", x.term(0, 0), 0);
        CHECKS.due("200 YEARS", x.term(1, 0), d(1900, 1, 1));
        CHECKS.due("to 2299", x.term(2, 1), d(2299, 1, 1));
        CHECKS.due("behind 2299", x.term(3, 1), LATE);
    }

    /** "until: that DAY". */
    private static void termOfUntil() {
        ClosedUntil x = Checks.told("piece a 1900 1 1;close until a 1700 1 1;close until a 2299 12 31;"
            + "close until a 1899 12 31;");
        CHECKS.due("DAY 0", x.term(0, 0), 0);
        CHECKS.due("the last DAY", x.term(1, 0), LAST);
        CHECKS.due("ahead of the piece's own", x.term(2, 0), d(1899, 12, 31));
    }

    /** "With whole then: the first of January of the year behind it". */
    private static void whole() {
        ClosedUntil x = Checks.told("person p;deposit d 1999 12 31;piece a 2000 1 1 of p;piece b 2000 12 31 from d;"
            + "piece c 1700 1 1;close content a 0 whole;close content b 0 whole;close person p 0 0 1 whole;"
            + "close deposit d 0 whole;close content a 1;close content c 0 whole;");
        CHECKS.due("a first of January", x.term(0, 0), d(2001, 1, 1));
        CHECKS.due("a last of December", x.term(1, 1), d(2001, 1, 1));
        CHECKS.due("of a person", x.term(2, 0), d(2002, 1, 1));
        CHECKS.due("of a deposit", x.term(3, 1), d(2000, 1, 1));
        CHECKS.due("not whole", x.term(4, 0), d(2001, 1, 1));
        CHECKS.due("of DAY 0", x.term(5, 2), d(1701, 1, 1));
    }

    /** "(LATE behind 2299)". */
    private static void wholeAtTheEnd() {
        ClosedUntil x = Checks.told("piece a 2298 12 31;piece b 2299 1 1;piece c 2299 12 31;close content a 0 whole;"
            + "close content b 0 whole;close content c 0 whole;close content c 1 whole;close content a 1 whole;");
        CHECKS.due("the last of 2298", x.term(0, 0), d(2299, 1, 1));
        CHECKS.due("the first of 2299", x.term(1, 1), LATE);
        CHECKS.due("the last of 2299", x.term(2, 2), LATE);
        CHECKS.due("LATE", x.term(3, 2), LATE);
        CHECKS.due("the last of 2298 and a year", x.term(4, 0), LATE);
    }

    // ---- REVIEWS

    /** "With whole then: .. Then REVIEWS": a year's end is not sought again. */
    private static void wholeAheadOfReviews() {
        ClosedUntil x = Checks.told("piece a 1900 5 5;close content a 0 whole;");
        x.review(0, d(1900, 12, 31), 1);
        CHECKS.due("whole, then a year", x.term(0, 0), d(1902, 1, 1));
        x.review(0, d(1901, 6, 6), -1);
        CHECKS.due("the REVIEW's DAY stays as it is", x.term(0, 0), d(1901, 6, 6));
    }

    /** "if TERM is behind the REVIEW's DAY": the day ahead of it, it, the day behind it. */
    private static void reviewOnTheTerm() {
        int term = d(1950, 6, 6);
        int[] wants = {d(1951, 6, 6), term, term};
        for (int i = 0; i < 3; i++) {
            ClosedUntil x = Checks.told("piece a 1900 1 1;close until a 1950 6 6;");
            x.review(0, term - 1 + i, 1);
            CHECKS.due("longer, TERM and " + (i - 1) + " days", x.term(0, 0), wants[i]);
        }
        int[] wantsOfShorter = {term - 1, term, term};
        for (int i = 0; i < 3; i++) {
            ClosedUntil x = Checks.told("piece a 1900 1 1;close until a 1950 6 6;");
            x.review(0, term - 1 + i, -50);
            CHECKS.due("shorter, TERM and " + (i - 1) + " days", x.term(0, 0), wantsOfShorter[i]);
        }
        ClosedUntil y = Checks.told("piece a 1700 1 1;close content a 0;close until a 1700 1 2;");
        y.review(0, 0, 50);
        CHECKS.due("a TERM of 0 is behind no DAY", y.term(0, 0), 0);
        y.review(1, 0, 50);
        CHECKS.due("a TERM of 1 is behind DAY 0", y.term(1, 0), d(1750, 1, 2));
    }

    /** "but not ahead of that DAY". */
    private static void reviewNotAheadOfItsDay() {
        int[] days = {d(1945, 6, 5), d(1945, 6, 6), d(1945, 6, 7)};
        int[] wants = {d(1945, 6, 6), d(1945, 6, 6), d(1945, 6, 7)};
        for (int i = 0; i < 3; i++) {
            ClosedUntil x = Checks.told("piece a 1900 1 1;close until a 1950 6 6;");
            x.review(0, days[i], -5);
            CHECKS.due("five years shorter, REVIEW " + i, x.term(0, 0), wants[i]);
        }
        ClosedUntil y = Checks.told("piece a 1900 1 1;close until a 1710 1 1;close until a 1710 1 1;");
        y.review(0, 0, -50);
        CHECKS.due("ahead of DAY 0", y.term(0, 0), 0);
        y.review(1, 1, -50);
        CHECKS.due("ahead of DAY 0 and of the REVIEW's", y.term(1, 0), 1);
    }

    /** "Then REVIEWS, by their DAYS": however they came. */
    private static void reviewsByTheirDays() {
        int[] days = {d(1940, 1, 1), d(1946, 1, 1), d(1948, 1, 1)};
        int[] years = {-5, 10, -1};
        int[][] orders = {{0, 1, 2}, {0, 2, 1}, {1, 0, 2}, {1, 2, 0}, {2, 0, 1}, {2, 1, 0}};
        for (int[] order : orders) {
            ClosedUntil x = Checks.told("piece a 1900 1 1;close until a 1950 6 6;");
            for (int r : order) {
                x.review(0, days[r], years[r]);
            }
            // 1950 - 5 = 1945; that is not behind 1946, nor behind 1948.
            CHECKS.due("shorter first", x.term(0, 0), d(1945, 6, 6));
        }
        int[] longer = {1, 10, -12};
        for (int[] order : orders) {
            ClosedUntil x = Checks.told("piece a 1900 1 1;close until a 1950 6 6;");
            for (int r : order) {
                x.review(0, days[r], longer[r]);
            }
            // 1950 + 1 + 10 - 12 = 1949, which is not ahead of 1948.
            CHECKS.due("longer first", x.term(0, 0), d(1949, 6, 6));
        }
    }

    /** "of one DAY as they came". */
    private static void reviewsOfOneDay() {
        int day = d(1948, 1, 1);
        ClosedUntil x = Checks.told("piece a 1900 1 1;close until a 1950 6 6;close until a 1950 6 6;");
        x.review(0, day, -10);
        x.review(0, day, 20);
        CHECKS.due("shorter, then no longer behind it", x.term(0, 0), day);
        x.review(1, day, 20);
        x.review(1, day, -10);
        CHECKS.due("longer, then shorter", x.term(1, 0), d(1960, 6, 6));
        ClosedUntil y = Checks.told("piece a 1900 1 1;close until a 1950 6 6;");
        y.review(0, day, 20);
        y.review(0, day + 1, 0);
        y.review(0, day - 1, 0);
        y.review(0, day, -20);
        CHECKS.due("others on days beside", y.term(0, 0), d(1950, 6, 6));
        y.review(0, day, -20);
        CHECKS.due("the third of one DAY", y.term(0, 0), day);
    }

    private static void reviewsAtTheEnds() {
        ClosedUntil x = Checks.told("piece a 1900 1 1;piece b 2299 1 1;close until a 2299 12 31;close content b 1;"
            + "close until a 2249 12 31;close until a 2250 1 1;close content b 1;");
        x.review(0, LAST, 50);
        CHECKS.due("a REVIEW on the last DAY, TERM on it", x.term(0, 0), LAST);
        x.review(0, LAST - 1, 1);
        CHECKS.due("behind the last DAY", x.term(0, 0), LATE);
        x.review(1, LAST, -50);
        CHECKS.due("LATE and YEARS: LATE", x.term(1, 1), LATE);
        x.review(2, 0, 50);
        CHECKS.due("to the last DAY", x.term(2, 0), LAST);
        x.review(3, 0, 50);
        CHECKS.due("behind it", x.term(3, 0), LATE);
        x.review(3, 0, -50);
        CHECKS.due("LATE stays", x.term(3, 0), LATE);
        x.review(4, 0, 0);
        CHECKS.due("LATE and no YEARS", x.term(4, 1), LATE);
    }

    private static void reviewsOfTheLeapDay() {
        ClosedUntil x = Checks.told("piece a 1900 1 1;close until a 1896 2 29;");
        x.review(0, 5, 1);
        CHECKS.due("a year longer", x.term(0, 0), d(1897, 2, 28));
        x.review(0, 5, -1);
        CHECKS.due("and shorter: the 28th stays", x.term(0, 0), d(1896, 2, 28));
    }

    /** "a REVIEW comes (5 at most of a CLOSURE)": all five count. */
    private static void fiveReviews() {
        ClosedUntil x = Checks.told("piece a 1900 1 1;close until a 1950 6 6;close until a 1950 6 6;");
        for (int i = 1; i <= 5; i++) {
            CHECKS.due("review " + i, x.review(0, 50 - i, 1), i);
            CHECKS.due("term behind it", x.term(0, 0), d(1950 + i, 6, 6));
        }
        CHECKS.due("a sixth", x.review(0, 9, 1), -1);
        CHECKS.due("term", x.term(0, 0), d(1955, 6, 6));
        CHECKS.due("one of another", x.review(1, 9, 1), 1);
        CHECKS.due("undo it", x.undo(), 5);
        CHECKS.due("undo the fifth", x.undo(), 4);
        CHECKS.due("a fifth again", x.review(0, 9, -1), 5);
        CHECKS.due("term", x.term(0, 0), d(1953, 6, 6));
    }

    // ---- LIFTED

    /** "If the CLOSURE is LIFTED on a DAY, at last: no later than that". */
    private static void lifted() {
        ClosedUntil x = Checks.told("piece a 1900 1 1;close until a 1950 6 6;close until a 2299 12 31;");
        int term = d(1950, 6, 6);
        x.lift(0, term + 1);
        CHECKS.due("behind TERM", x.term(0, 0), term);
        x.lift(0, term);
        CHECKS.due("on TERM", x.term(0, 0), term);
        x.lift(0, term - 1);
        CHECKS.due("ahead of TERM", x.term(0, 0), term - 1);
        x.lift(0, 0);
        CHECKS.due("on DAY 0", x.term(0, 0), 0);
        CHECKS.due("it closes still", x.ends(0, 0), 0);
        CHECKS.due("it closes still", x.closure(0, 6), 1);
        x.lift(0, -1);
        CHECKS.due("no more", x.term(0, 0), term);
        x.review(1, 0, 1);
        x.lift(1, LAST);
        CHECKS.due("LATE, LIFTED on the last DAY", x.term(1, 0), LAST);
    }

    /** "at last": behind all REVIEWS, whichever came first. */
    private static void liftedAtLast() {
        ClosedUntil x = Checks.told("piece a 1900 1 1;close until a 1950 6 6;");
        x.lift(0, d(1940, 1, 1));
        x.review(0, d(1930, 1, 1), 20);
        CHECKS.due("a REVIEW behind it", x.term(0, 0), d(1940, 1, 1));
        x.review(0, d(1945, 1, 1), -50);
        CHECKS.due("not ahead of a REVIEW's DAY, but LIFTED", x.term(0, 0), d(1940, 1, 1));
    }

    // ---- ENDS and OPENS

    /** "ENDS ..: the latest TERM of all TARGETS that it is UNDER": itself, one above, two above. */
    private static void endsIsTheLatest() {
        int[][] days = {{3, 2, 1}, {3, 1, 2}, {2, 3, 1}, {1, 3, 2}, {2, 1, 3}, {1, 2, 3}, {2, 2, 2}};
        for (int[] day : days) {
            ClosedUntil x = Checks.told("person p;piece a 1900 1 " + day[0] + " of p;piece b in a 1900 1 " + day[1]
                + " of p;piece c in b 1900 1 " + day[2] + " of p;close person p 0 0 0;");
            int latest = 0;
            for (int p = 0; p < 3; p++) {
                latest = Math.max(latest, d(1900, 1, day[p]));
                CHECKS.due("ENDS", x.ends(0, p), latest);
                CHECKS.due("TERM", x.term(0, p), d(1900, 1, day[p]));
            }
        }
        ClosedUntil y = Checks.told("person p;piece a 1900 1 1;piece b in a 1900 1 2 of p;piece c in b 1900 1 3;"
            + "piece e in c 1900 1 1 of p;close person p 0 0 0;");
        CHECKS.due("none above", y.ends(0, 0), -1);
        CHECKS.due("no TARGET itself", y.ends(0, 2), d(1900, 1, 2));
        CHECKS.due("past one that is none", y.ends(0, 3), d(1900, 1, 2));
        y.put(3, -1);
        CHECKS.due("UNDER itself alone", y.ends(0, 3), d(1900, 1, 1));
    }

    /** "(0 without)". */
    private static void opensWithoutClosures() {
        ClosedUntil x = Checks.told("piece a 1900 1 1;piece b in a 1900 1 1;close content b 1;");
        CHECKS.due("without", x.opens(0, 0), 0);
        CHECKS.due("without any that holds", x.opens(1, 1), 0);
        CHECKS.due("with one", x.opens(1, 0), d(1901, 1, 1));
        CHECKS.due("open on DAY 0", x.open(0, 0), 1);
        ClosedUntil y = Checks.told("piece a 1900 1 1;");
        CHECKS.due("no closures at all", y.opens(0, 0), 0);
        CHECKS.due("no closures at all", y.allOf(0, 0), 0);
        CHECKS.due("no closures at all", y.next(-1, 0), 0);
    }

    /** "on the latest of ENDS of all CLOSURES that close it": the first, the last, LATE. */
    private static void opensIsTheLatest() {
        ClosedUntil x = Checks.told("piece a 1900 1 1;close content a 3;close content a 2;close until a 1903 1 2;");
        CHECKS.due("the last", x.opens(0, 0), d(1903, 1, 2));
        x.lift(2, 0);
        CHECKS.due("the first", x.opens(0, 0), d(1903, 1, 1));
        x.lift(0, 0);
        CHECKS.due("the one between", x.opens(0, 0), d(1902, 1, 1));
        x.lift(1, 0);
        CHECKS.due("all LIFTED on DAY 0", x.opens(0, 0), 0);
        ClosedUntil y = Checks.told("piece a 2299 1 1;close content a 1;close content a 0;");
        CHECKS.due("LATE", y.opens(0, 0), LATE);
    }

    /** "it is closed on all days ahead": open on the day itself. */
    private static void closedOnAllDaysAhead() {
        ClosedUntil x = Checks.told("piece a 1900 1 1;piece b 2299 1 1;close content a 3;close content b 1;");
        int day = d(1903, 1, 1);
        CHECKS.due("on DAY 0", x.open(0, 0), 0);
        CHECKS.due("the day ahead", x.open(day - 1, 0), 0);
        CHECKS.due("the day", x.open(day, 0), 1);
        CHECKS.due("the last day", x.open(LAST, 0), 1);
        CHECKS.due("LATE", x.open(LATE, 0), 3);
    }

    /** "READERS: sorts of CLOSURES that don't hold for them (bits: ..)". */
    private static void readersBySorts() {
        ClosedUntil x = Checks.told("person p;deposit d 1900 1 1;piece a 1900 1 1 of p from d;close content a 1;"
            + "close person p 0 0 2;close deposit d 3;close until a 1904 1 1;");
        for (int readers = 0; readers < 16; readers++) {
            int latest = -1;
            for (int sort = 0; sort < 4; sort++) {
                latest = (readers >> sort & 1) == 0 ? sort : latest;
            }
            CHECKS.due("opens(0, " + readers + ")", x.opens(0, readers), latest < 0 ? 0 : d(1901 + latest, 1, 1));
            CHECKS.due("reason(0, " + readers + ")", x.reason(0, readers), latest);
            CHECKS.due("mustGo(0, 0, " + readers + ")", x.mustGo(0, 0, readers), 15 - readers);
            CHECKS.due("open(0, " + readers + ")", x.open(0, readers), readers == 15 ? 1 : 0);
            CHECKS.due("next(-1, " + readers + ")", x.next(-1, readers), latest < 0 ? 0 : d(1901 + latest, 1, 1));
            CHECKS.due("openWithout", x.openWithout(0, readers, 15 - readers), 1);
            CHECKS.due("allOf(0, " + readers + ")", x.allOf(0, readers), latest < 0 ? 0 : d(1901 + latest, 1, 1));
            int bits = Integer.bitCount(15 - readers);
            CHECKS.due("best(0, " + readers + ", 3)", x.best(0, readers, 3), bits < 4 ? 15 - readers : 0);
            for (int c = 0; c < 4; c++) {
                boolean last = c == latest;
                int without = 15 - (readers | 1 << c);
                int then = without == 0 ? 0 : d(1901 + 31 - Integer.numberOfLeadingZeros(without), 1, 1);
                CHECKS.dueSooner(x, c, 0, readers, "" + (last ? d(1901 + c, 1, 1) - then : 0));
            }
        }
    }

    /** "ALL OF it opens on the latest DAY on which a PIECE UNDER it (it, too) OPENS". */
    private static void allOfIsTheLatest() {
        ClosedUntil x = Checks.told("piece a 1900 1 1;piece b in a 1900 1 1;piece c in b 1900 1 1;piece e 1900 1 1;"
            + "close content c 5;close content e 9;close content b 1;");
        CHECKS.due("two below", x.allOf(0, 0), d(1905, 1, 1));
        CHECKS.due("itself", x.allOf(2, 0), d(1905, 1, 1));
        CHECKS.due("not one beside it", x.allOf(1, 0), d(1905, 1, 1));
        x.lift(0, 0);
        CHECKS.due("it, too", x.allOf(1, 0), d(1901, 1, 1));
        x.lift(2, 0);
        CHECKS.due("none is closed", x.allOf(0, 0), 0);
        x.put(3, 2);
        CHECKS.due("put below", x.allOf(0, 0), d(1909, 1, 1));
    }

    /** "REASON: of the CLOSURES whose ENDS are as late as it OPENS .. the first". */
    private static void reasonIsTheFirst() {
        ClosedUntil x = Checks.told("piece a 1900 1 1;close content a 2;close content a 3;close until a 1903 1 1;"
            + "close content a 3;");
        CHECKS.due("the first of three", x.reason(0, 0), 1);
        x.lift(1, d(1903, 1, 1));
        CHECKS.due("LIFTED on the same DAY", x.reason(0, 0), 1);
        x.lift(1, d(1902, 12, 31));
        CHECKS.due("LIFTED a day ahead", x.reason(0, 0), 2);
        CHECKS.due("the first that holds", x.reason(0, 8), 3);
        CHECKS.due("only one holds", x.reason(0, 1), 2);
        ClosedUntil y = Checks.told("piece a 2299 1 1;close content a 1;close content a 2;");
        CHECKS.due("both LATE", y.reason(0, 0), 0);
    }

    /** "(behind 0)": what opens on DAY 0 has no REASON. */
    private static void reasonIsBehind0() {
        ClosedUntil x = Checks.told("piece a 1700 1 1;piece b in a 1700 1 1;close content a 0;close until b 1700 1 2;");
        CHECKS.due("ENDS on 0", x.ends(0, 0), 0);
        CHECKS.due("no REASON", x.reason(0, 0), -1);
        CHECKS.due("ENDS on 1", x.reason(1, 0), 1);
        x.lift(1, 0);
        CHECKS.due("LIFTED on 0", x.reason(1, 0), -1);
    }

    /** "A PIECE is closed by a CLOSURE on a DAY ahead of its ENDS". */
    private static void closedAheadOfItsEnds() {
        ClosedUntil x = Checks.told("piece a 1900 1 1;piece b in a 2299 1 1;close until a 1700 1 1;"
            + "close until a 1700 1 2;close until a 2299 12 31;close content b 1;");
        CHECKS.due("ENDS on 0 closes on no DAY", x.closedBy(0, 0), 6);
        CHECKS.due("ENDS on 1 does on 0", x.closedBy(0, 1), 4);
        CHECKS.due("the day ahead of the last", x.closedBy(1, LAST - 1), 12);
        CHECKS.due("the last day", x.closedBy(1, LAST), 8);
        CHECKS.due("LATE", x.closedBy(1, LATE), 0);
    }

    // ---- BEST TO LIFT

    /** "of several the fewest": none, where nothing is closed or nothing can be opened. */
    private static void bestOfNoneNeeded() {
        ClosedUntil x = Checks.told("piece a 1900 1 1;close content a 1;close content a 1;close content a 1;"
            + "close content a 1;");
        CHECKS.due("open on the DAY", x.best(d(1901, 1, 1), 0, 3), 0);
        CHECKS.due("four must go", x.best(d(1900, 12, 31), 0, 3), 0);
        CHECKS.due("for whom none holds", x.best(0, 1, 3), 0);
        CHECKS.due("LATE", x.best(LATE, 0, 3), 0);
        x.lift(2, 0);
        CHECKS.due("three must go", x.best(d(1900, 12, 31), 0, 3), 11);
        CHECKS.due("two are too few", x.best(d(1900, 12, 31), 0, 2), 0);
        x.lift(0, 0);
        CHECKS.due("two must go", x.best(d(1900, 12, 31), 0, 2), 10);
        CHECKS.due("two must go, three may", x.best(d(1900, 12, 31), 0, 3), 10);
        CHECKS.due("one is too few", x.best(d(1900, 12, 31), 0, 1), 0);
        x.lift(3, 0);
        CHECKS.due("one must go", x.best(d(1900, 12, 31), 0, 1), 2);
        CHECKS.due("one must go, none may", x.best(d(1900, 12, 31), 0, 0), 0);
    }

    /** "without which .. most PIECES are open on it". */
    private static void bestIsTheMost() {
        ClosedUntil x = Checks.told("piece a 1900 1 1;piece b 1900 1 1;piece c in b 1900 1 1;piece e in b 1900 1 1;"
            + "piece f 1900 1 1;piece g in f 1900 1 1;close content a 9;close content b 9;close content f 9;"
            + "close content f 9;");
        CHECKS.due("one: three pieces", x.best(0, 0, 1), 2);
        CHECKS.due("two: four pieces by one more", x.best(0, 0, 2), 3);
        CHECKS.due("three: five pieces", x.best(0, 0, 3), 14);
    }

    private static void bestIsTheFewest() {
        ClosedUntil x = Checks.told("piece a 1900 1 1;piece b 1900 1 1;close content a 9;close content a 9;"
            + "close content b 9;");
        CHECKS.due("two open one, but one does, too", x.best(0, 0, 2), 4);
        CHECKS.due("three open both", x.best(0, 0, 3), 7);
        x.lift(2, 0);
        CHECKS.due("the third is of no use", x.best(0, 0, 3), 3);
    }

    /** "then the least as bits": 3 is less than 5, 6 less than 9. */
    private static void bestIsTheLeastAsBits() {
        ClosedUntil x = Checks.told(Full.pieces(6) + "close content qa 0;close content qb 9;close content qc 9;"
            + "close content qd 9;close content qe 9;");
        x.lift(1, 0);
        CHECKS.due("one of four", x.best(0, 0, 1), 1);
        x.lift(0, 0);
        CHECKS.due("one of three", x.best(0, 0, 1), 4);
        CHECKS.due("two of three", x.best(0, 0, 2), 12);
        CHECKS.due("three of three", x.best(0, 0, 3), 28);
        ClosedUntil y = Checks.told("piece a 1900 1 1;piece b 1900 1 1;close content a 9;close content b 9;"
            + "close content b 9;close content a 9;");
        CHECKS.due("6 ahead of 9", y.best(0, 0, 2), 6);
        CHECKS.due("6 ahead of 9, three may", y.best(0, 0, 3), 6);
    }

    /** All choices are looked at: each three of twelve, where just these open a piece. */
    private static void bestTakesAllTwelve() {
        for (int first = 0; first < 12; first++) {
            for (int second = first + 1; second < 12; second++) {
                ClosedUntil x = Checks.told("piece a 1900 1 1;" + "close content a 1;".repeat(12));
                liftAllBut(x, 1 << first | 1 << second);
                CHECKS.due("two of twelve", x.best(0, 0, 2), 1 << first | 1 << second);
                for (int third = second + 1; third < 12; third++) {
                    x.lift(third, -1);
                    int three = 1 << first | 1 << second | 1 << third;
                    CHECKS.due("three of twelve", x.best(0, 0, 3), three);
                    CHECKS.due("two are too few", x.best(0, 0, 2), 0);
                    x.lift(third, 0);
                }
            }
        }
    }

    private static void liftAllBut(ClosedUntil x, int bits) {
        for (int c = 0; c < 12; c++) {
            if ((bits >> c & 1) == 0) {
                x.lift(c, 0);
            }
        }
    }
}

/** Promises 7 to 29, each with ordinary inputs, the edges that the document names, and wrong inputs. */
public final class PromiseTest {
    private static final Checks CHECKS = new Checks();
    private static final int LATE = ClosedUntil.LATE;
    private static final int MIN = Integer.MIN_VALUE;
    private static final int MAX = Integer.MAX_VALUE;
    private static final String NO_SUCH = "java.util.NoSuchElementException";

    /** Pieces: 0 root, 1 a in root, 2 b in root, 3 c in b, 4 free. */
    private static final String HOLDINGS =
        "person ann born 1900 5 1 died 1980 2 29;person bob born 1950 1 1;person cid;"
        + "deposit d 1990 6 15;deposit e 2000 1 1;"
        + "piece root 1970 12 31;piece a in root 1960 1 1 of ann of cid;"
        + "piece b in root 1965 3 3 of bob from d;piece c in b 1966 4 4 of cid;piece free 1999 9 9 from e;";
    /** Closures: 0 content root, 1 ann, 2 bob, 3 cid, 4 deposit d, 5 until c. */
    private static final String CLOSURES =
        "close content root 10;close person ann 30 110 90 whole;close person bob 30 110 90;"
        + "close person cid 1 2 80;close deposit d 40 whole;close until c 2050 1 1;";

    public static void main(String[] args) {
        piece();
        person();
        closure();
        term();
        termWithReviews();
        ends();
        opensAndAllOf();
        reason();
        closedBy();
        sooner();
        open();
        next();
        listed();
        mustGo();
        best();
        openWithout();
        review();
        lift();
        died();
        put();
        undo();
        keep();
        count();
        CHECKS.finish();
    }

    private static ClosedUntil holdings() {
        return Checks.told(HOLDINGS + CLOSURES);
    }

    private static int d(int year, int month, int day) {
        return Checks.d(year, month, day);
    }

    private static void piece() {
        ClosedUntil x = holdings();
        CHECKS.due("piece(0, 0)", x.piece(0, 0), -1);
        CHECKS.due("piece(3, 0)", x.piece(3, 0), 2);
        CHECKS.due("piece(3, 1)", x.piece(3, 1), d(1966, 4, 4));
        CHECKS.due("piece(1, 2)", x.piece(1, 2), 5);
        CHECKS.due("piece(0, 2)", x.piece(0, 2), 0);
        CHECKS.due("piece(2, 3)", x.piece(2, 3), 0);
        CHECKS.due("piece(4, 3)", x.piece(4, 3), 1);
        CHECKS.due("piece(0, 3)", x.piece(0, 3), -1);
        CHECKS.due("piece(0, 4)", x.piece(0, 4), 15);
        CHECKS.due("piece(2, 4)", x.piece(2, 4), 12);
        CHECKS.due("piece(4, 4)", x.piece(4, 4), 16);
        CHECKS.due("piece(0, 5)", x.piece(0, 5), 0);
        CHECKS.due("piece(3, 5)", x.piece(3, 5), 2);
        int[][] wrong = {{-1, 0}, {5, 0}, {24, 4}, {MIN, 5}, {MAX, 5}, {0, -1}, {0, 6}, {0, MIN}, {0, MAX}};
        for (int[] w : wrong) {
            CHECKS.due("piece(" + w[0] + ", " + w[1] + ")", x.piece(w[0], w[1]), -2);
        }
    }

    private static void person() {
        ClosedUntil x = holdings();
        CHECKS.due("person(0, 0)", x.person(0, 0), d(1900, 5, 1));
        CHECKS.due("person(0, 1)", x.person(0, 1), d(1980, 2, 29));
        CHECKS.due("person(0, 2)", x.person(0, 2), 2);
        CHECKS.due("person(1, 1)", x.person(1, 1), -1);
        CHECKS.due("person(2, 0)", x.person(2, 0), -1);
        CHECKS.due("person(2, 2)", x.person(2, 2), 10);
        x.died(1, d(2001, 1, 1));
        CHECKS.due("person(1, 1), told", x.person(1, 1), d(2001, 1, 1));
        int[][] wrong = {{-1, 0}, {3, 0}, {8, 2}, {MIN, 1}, {MAX, 1}, {0, -1}, {0, 3}, {0, MIN}, {0, MAX}};
        for (int[] w : wrong) {
            CHECKS.due("person(" + w[0] + ", " + w[1] + ")", x.person(w[0], w[1]), -2);
        }
    }

    private static void closure() {
        ClosedUntil x = holdings();
        int[] sorts = {0, 1, 1, 1, 2, 3};
        int[] subjects = {0, 0, 1, 2, 0, 3};
        int[] wholes = {0, 1, 0, 0, 1, 0};
        int[] targets = {1, 2, 4, 10, 4, 8};
        int[] closed = {15, 2, 12, 10, 12, 8};
        for (int c = 0; c < 6; c++) {
            CHECKS.due("closure(" + c + ", 0)", x.closure(c, 0), sorts[c]);
            CHECKS.due("closure(" + c + ", 1)", x.closure(c, 1), subjects[c]);
            CHECKS.due("closure(" + c + ", 2)", x.closure(c, 2), wholes[c]);
            CHECKS.due("closure(" + c + ", 3)", x.closure(c, 3), 0);
            CHECKS.due("closure(" + c + ", 4)", x.closure(c, 4), -1);
            CHECKS.due("closure(" + c + ", 5)", x.closure(c, 5), targets[c]);
            CHECKS.due("closure(" + c + ", 6)", x.closure(c, 6), closed[c]);
        }
        x.review(5, 9, 0);
        x.lift(5, 0);
        CHECKS.due("closure(5, 3)", x.closure(5, 3), 1);
        CHECKS.due("closure(5, 4)", x.closure(5, 4), 0);
        CHECKS.due("closure(5, 6), lifted", x.closure(5, 6), 8);
        x.put(4, 3);
        CHECKS.due("closure(5, 5)", x.closure(5, 5), 8);
        CHECKS.due("closure(5, 6), another under it", x.closure(5, 6), 24);
        int[][] wrong = {{-1, 0}, {6, 0}, {12, 5}, {MIN, 6}, {MAX, 6}, {0, -1}, {0, 7}, {0, MIN}, {0, MAX}};
        for (int[] w : wrong) {
            CHECKS.due("closure(" + w[0] + ", " + w[1] + ")", x.closure(w[0], w[1]), -2);
        }
    }

    private static void term() {
        ClosedUntil x = holdings();
        CHECKS.due("term(0, 0)", x.term(0, 0), d(1980, 12, 31));
        CHECKS.due("term(1, 1)", x.term(1, 1), d(2011, 1, 1));
        CHECKS.due("term(2, 2)", x.term(2, 2), d(2060, 1, 1));
        CHECKS.due("term(3, 1)", x.term(3, 1), d(2040, 1, 1));
        CHECKS.due("term(3, 3)", x.term(3, 3), d(2046, 4, 4));
        CHECKS.due("term(4, 2)", x.term(4, 2), d(2031, 1, 1));
        CHECKS.due("term(5, 3)", x.term(5, 3), d(2050, 1, 1));
        int[][] none = {{0, 1}, {5, 2}, {3, 2}, {4, 4}, {-1, 0}, {6, 0}, {0, -1}, {0, 5}, {MIN, 0}, {MAX, 0},
            {0, MIN}, {0, MAX}};
        for (int[] n : none) {
            CHECKS.due("term(" + n[0] + ", " + n[1] + ")", x.term(n[0], n[1]), -1);
        }
        ClosedUntil y = Checks.told("piece a 2299 1 1;piece b 2298 12 31;piece c 2000 1 1;piece e 2004 2 29;"
            + "close content a 0 whole;close content b 0 whole;close content a 1;close content c 0 whole;"
            + "close content e 96;close content e 1 whole;close content a 200 whole;");
        CHECKS.due("whole of 2299", y.term(0, 0), LATE);
        CHECKS.due("whole of 2298", y.term(1, 1), d(2299, 1, 1));
        CHECKS.due("behind 2299", y.term(2, 0), LATE);
        CHECKS.due("whole of a first of January", y.term(3, 2), d(2001, 1, 1));
        CHECKS.due("no 29th of February in 2100", y.term(4, 3), d(2100, 2, 28));
        CHECKS.due("whole behind the years", y.term(5, 3), d(2006, 1, 1));
        CHECKS.due("whole of LATE", y.term(6, 0), LATE);
    }

    private static void termWithReviews() {
        ClosedUntil x = holdings();
        x.review(5, d(2050, 1, 1), 10);
        CHECKS.due("TERM is on the REVIEW's DAY", x.term(5, 3), d(2050, 1, 1));
        x.review(5, d(2049, 12, 31), 10);
        CHECKS.due("by their DAYS: longer first", x.term(5, 3), d(2070, 1, 1));
        x.review(5, d(2040, 1, 1), -5);
        CHECKS.due("shorter ahead of both", x.term(5, 3), d(2045, 1, 1));
        x.review(5, d(2044, 6, 6), -5);
        CHECKS.due("not ahead of that DAY", x.term(5, 3), d(2044, 6, 6));
        x.lift(5, d(2044, 6, 7));
        CHECKS.due("LIFTED behind it", x.term(5, 3), d(2044, 6, 6));
        x.lift(5, d(2044, 6, 5));
        CHECKS.due("LIFTED ahead of it", x.term(5, 3), d(2044, 6, 5));
        ClosedUntil y = holdings();
        y.review(5, 10, 50);
        y.review(5, 10, -50);
        CHECKS.due("there and back", y.term(5, 3), d(2050, 1, 1));
        ClosedUntil z = Checks.told("piece a 2200 1 1;close content a 80;close content a 80;close until a 1710 1 1;");
        z.review(0, 5, 50);
        z.review(0, 5, -50);
        CHECKS.due("of one DAY as they came: LATE stays", z.term(0, 0), LATE);
        z.review(1, 5, -50);
        z.review(1, 5, 50);
        CHECKS.due("of one DAY as they came: shorter, longer", z.term(1, 0), d(2280, 1, 1));
        z.review(2, 5, -50);
        CHECKS.due("ahead of DAY 0, but not ahead of the REVIEW's", z.term(2, 0), 5);
    }

    private static void ends() {
        ClosedUntil x = Checks.told("person p;piece a 1900 1 1 of p;piece b in a 1950 1 1 of p;piece c in b 1920 1 1;"
            + "piece e in c 1930 1 1 of p;piece f in a 1800 1 1;close person p 1 2 10;close content c 5;");
        CHECKS.due("ends(0, 0)", x.ends(0, 0), d(1910, 1, 1));
        CHECKS.due("ends(0, 1)", x.ends(0, 1), d(1960, 1, 1));
        CHECKS.due("ends(0, 2)", x.ends(0, 2), d(1960, 1, 1));
        CHECKS.due("ends(0, 3), the latest of three", x.ends(0, 3), d(1960, 1, 1));
        CHECKS.due("ends(0, 4)", x.ends(0, 4), d(1910, 1, 1));
        CHECKS.due("ends(1, 3)", x.ends(1, 3), d(1925, 1, 1));
        int[][] none = {{1, 0}, {1, 1}, {1, 4}, {2, 0}, {-1, 0}, {0, 5}, {0, -1}, {MIN, 0}, {MAX, 0}, {0, MIN},
            {0, MAX}};
        for (int[] n : none) {
            CHECKS.due("ends(" + n[0] + ", " + n[1] + ")", x.ends(n[0], n[1]), -1);
        }
        x.put(3, 0);
        CHECKS.due("ends(0, 3), elsewhere", x.ends(0, 3), d(1940, 1, 1));
        CHECKS.due("ends(1, 3), elsewhere", x.ends(1, 3), -1);
    }

    private static void opensAndAllOf() {
        ClosedUntil x = holdings();
        CHECKS.due("opens(0, 0)", x.opens(0, 0), d(1980, 12, 31));
        CHECKS.due("opens(1, 0)", x.opens(1, 0), d(2040, 1, 1));
        CHECKS.due("opens(1, 2)", x.opens(1, 2), d(1980, 12, 31));
        CHECKS.due("opens(1, 3)", x.opens(1, 3), 0);
        CHECKS.due("opens(3, 0)", x.opens(3, 0), d(2060, 1, 1));
        CHECKS.due("opens(3, 2)", x.opens(3, 2), d(2050, 1, 1));
        CHECKS.due("opens(3, 10)", x.opens(3, 10), d(2031, 1, 1));
        CHECKS.due("opens(3, 14)", x.opens(3, 14), d(1980, 12, 31));
        CHECKS.due("opens(3, 15)", x.opens(3, 15), 0);
        CHECKS.due("opens(4, 0)", x.opens(4, 0), 0);
        CHECKS.due("allOf(0, 0)", x.allOf(0, 0), d(2060, 1, 1));
        CHECKS.due("allOf(0, 2)", x.allOf(0, 2), d(2050, 1, 1));
        CHECKS.due("allOf(1, 0)", x.allOf(1, 0), d(2040, 1, 1));
        CHECKS.due("allOf(2, 10)", x.allOf(2, 10), d(2031, 1, 1));
        CHECKS.due("allOf(4, 0)", x.allOf(4, 0), 0);
        CHECKS.due("allOf(0, 15)", x.allOf(0, 15), 0);
        int[][] none = {{-1, 0}, {5, 0}, {0, -1}, {0, 16}, {MIN, 0}, {MAX, 0}, {0, MIN}, {0, MAX}};
        for (int[] n : none) {
            CHECKS.due("opens(" + n[0] + ", " + n[1] + ")", x.opens(n[0], n[1]), -1);
            CHECKS.due("allOf(" + n[0] + ", " + n[1] + ")", x.allOf(n[0], n[1]), -1);
            CHECKS.due("reason(" + n[0] + ", " + n[1] + ")", x.reason(n[0], n[1]), -1);
        }
    }

    private static void reason() {
        ClosedUntil x = holdings();
        CHECKS.due("reason(0, 0)", x.reason(0, 0), 0);
        CHECKS.due("reason(1, 0)", x.reason(1, 0), 3);
        CHECKS.due("reason(3, 0)", x.reason(3, 0), 2);
        CHECKS.due("reason(3, 2)", x.reason(3, 2), 5);
        CHECKS.due("reason(4, 0)", x.reason(4, 0), -1);
        CHECKS.due("reason(3, 15)", x.reason(3, 15), -1);
        ClosedUntil y = Checks.told("deposit d 1900 1 1;piece a 1900 1 1 from d;close until a 1700 1 1;"
            + "close until a 1920 1 1;close content a 20;close deposit d 20;");
        CHECKS.due("the first of several", y.reason(0, 0), 1);
        CHECKS.due("the first that holds", y.reason(0, 8), 2);
        CHECKS.due("the first that holds", y.reason(0, 9), 3);
        CHECKS.due("ends on 0 is no reason", y.reason(0, 5), 1);
        y.lift(1, 0);
        CHECKS.due("opens on 0", y.opens(0, 5), 0);
        CHECKS.due("ends on 0 is no reason", y.reason(0, 5), -1);
    }

    private static void closedBy() {
        ClosedUntil x = holdings();
        CHECKS.due("closedBy(3, 0)", x.closedBy(3, 0), 61);
        CHECKS.due("closedBy(3, 2040)", x.closedBy(3, d(2040, 1, 1)), 44);
        CHECKS.due("the day ahead of ENDS", x.closedBy(3, d(2049, 12, 31)), 36);
        CHECKS.due("on ENDS", x.closedBy(3, d(2050, 1, 1)), 4);
        CHECKS.due("closedBy(3, LATE)", x.closedBy(3, LATE), 0);
        CHECKS.due("closedBy(4, 0)", x.closedBy(4, 0), 0);
        int[][] none = {{-1, 0}, {5, 0}, {0, -1}, {0, LATE + 1}, {MIN, 0}, {MAX, 0}, {0, MIN}, {0, MAX}};
        for (int[] n : none) {
            CHECKS.due("closedBy(" + n[0] + ", " + n[1] + ")", x.closedBy(n[0], n[1]), -1);
        }
        ClosedUntil y = Checks.told("piece a 2299 1 1;close content a 9;");
        CHECKS.due("ENDS LATE, on the last day", y.closedBy(0, LATE - 1), 1);
        CHECKS.due("ENDS LATE, on LATE", y.closedBy(0, LATE), 0);
    }

    private static void sooner() {
        ClosedUntil x = holdings();
        int tenYears = d(2060, 1, 1) - d(2050, 1, 1);
        CHECKS.dueSooner(x, 2, 3, 0, "" + tenYears);
        CHECKS.dueSooner(x, 2, 3, 2, "0");
        CHECKS.dueSooner(x, 5, 3, 0, "0");
        CHECKS.dueSooner(x, 0, 0, 0, "" + d(1980, 12, 31));
        CHECKS.dueSooner(x, 5, 0, 0, "0");
        CHECKS.dueSooner(x, 5, 4, 0, "0");
        int[][] none = {{-1, 0, 0}, {6, 0, 0}, {0, -1, 0}, {0, 5, 0}, {0, 0, -1}, {0, 0, 16}, {MIN, 0, 0},
            {MAX, 0, 0}, {0, MIN, 0}, {0, MAX, 0}, {0, 0, MIN}, {0, 0, MAX}};
        for (int[] n : none) {
            CHECKS.dueSooner(x, n[0], n[1], n[2], NO_SUCH);
        }
        CHECKS.dueSooner(new ClosedUntil(), 0, 0, 0, NO_SUCH);
        ClosedUntil y = Checks.told("piece a 2299 1 1;close content a 9;close content a 0;");
        CHECKS.dueSooner(y, 0, 0, 0, "" + (LATE - d(2299, 1, 1)));
    }

    private static void open() {
        ClosedUntil x = holdings();
        CHECKS.due("open(0, 0)", x.open(0, 0), 16);
        CHECKS.due("open, the day ahead", x.open(d(1980, 12, 30), 0), 16);
        CHECKS.due("open, on it", x.open(d(1980, 12, 31), 0), 17);
        CHECKS.due("open, 2050 for 2", x.open(d(2050, 1, 1), 2), 31);
        CHECKS.due("open(0, 15)", x.open(0, 15), 31);
        CHECKS.due("open(LATE, 0)", x.open(LATE, 0), 31);
        int[][] none = {{-1, 0}, {LATE + 1, 0}, {0, -1}, {0, 16}, {MIN, 0}, {MAX, 0}, {0, MIN}, {0, MAX}};
        for (int[] n : none) {
            CHECKS.due("open(" + n[0] + ", " + n[1] + ")", x.open(n[0], n[1]), -1);
        }
    }

    private static void next() {
        ClosedUntil x = holdings();
        int[] days = {-1, 0, d(1980, 12, 31), d(2040, 1, 1), d(2060, 1, 1)};
        for (int i = 0; i + 1 < days.length; i++) {
            CHECKS.due("next(" + days[i] + ", 0)", x.next(days[i], 0), days[i + 1]);
        }
        CHECKS.due("next of the last", x.next(d(2060, 1, 1), 0), -1);
        CHECKS.due("next, the day ahead", x.next(d(2039, 12, 31), 0), d(2040, 1, 1));
        CHECKS.due("next(LATE, 0)", x.next(LATE, 0), -1);
        CHECKS.due("next(-1, 15)", x.next(-1, 15), 0);
        CHECKS.due("next(0, 15)", x.next(0, 15), -1);
        int[][] none = {{-2, 0}, {LATE + 1, 0}, {-1, -1}, {-1, 16}, {MIN, 0}, {MAX, 0}, {0, MIN}, {0, MAX}};
        for (int[] n : none) {
            CHECKS.due("next(" + n[0] + ", " + n[1] + ")", x.next(n[0], n[1]), -1);
        }
        ClosedUntil y = Checks.told("piece a 2299 1 1;close content a 9;");
        CHECKS.due("a piece opens LATE", y.next(-1, 0), LATE);
        CHECKS.due("behind LATE", y.next(LATE, 0), -1);
    }

    private static void listed() {
        ClosedUntil x = holdings();
        int[] order = {4, 0, 1, 3, 2};
        for (int k = 0; k < order.length; k++) {
            CHECKS.due("listed(" + k + ", 0)", x.listed(k, 0), order[k]);
        }
        int[] byDepth = {3, 1, 2, 0, 4};
        for (int k = 0; k < byDepth.length; k++) {
            CHECKS.due("listed(" + k + ", 15)", x.listed(k, 15), byDepth[k]);
        }
        x.put(4, 3);
        CHECKS.due("listed(0, 15), put deeper", x.listed(0, 15), 4);
        int[][] none = {{-1, 0}, {5, 0}, {0, -1}, {0, 16}, {MIN, 0}, {MAX, 0}, {0, MIN}, {0, MAX}};
        for (int[] n : none) {
            CHECKS.due("listed(" + n[0] + ", " + n[1] + ")", x.listed(n[0], n[1]), -1);
        }
    }

    private static void mustGo() {
        ClosedUntil x = holdings();
        int day = d(2040, 1, 1);
        CHECKS.due("mustGo(0)", x.mustGo(0, day, 0), 44);
        CHECKS.due("mustGo(0), for 2", x.mustGo(0, day, 2), 32);
        CHECKS.due("mustGo(1)", x.mustGo(1, day, 0), 0);
        CHECKS.due("mustGo(1), the day ahead", x.mustGo(1, day - 1, 0), 8);
        CHECKS.due("mustGo(2)", x.mustGo(2, day, 0), 44);
        CHECKS.due("mustGo(0) on 0", x.mustGo(0, 0, 0), 63);
        CHECKS.due("mustGo(0) LATE", x.mustGo(0, LATE, 0), 0);
        int[][] none = {{-1, 0, 0}, {5, 0, 0}, {0, -1, 0}, {0, LATE + 1, 0}, {0, 0, -1}, {0, 0, 16}, {MIN, 0, 0},
            {MAX, 0, 0}, {0, MIN, 0}, {0, MAX, 0}, {0, 0, MIN}, {0, 0, MAX}};
        for (int[] n : none) {
            CHECKS.due("mustGo(" + n[0] + ", " + n[1] + ", " + n[2] + ")", x.mustGo(n[0], n[1], n[2]), -1);
        }
    }

    private static void best() {
        ClosedUntil x = Checks.told("piece a 1900 1 1;piece b in a 1900 1 1;piece c 1900 1 1;piece e 1900 1 1;"
            + "piece f 1900 1 1;close content e 9;close content a 9;close content c 9;close content b 9;"
            + "close until c 1800 1 1;close content f 9;close content f 8;close content f 7;");
        int day = d(1900, 1, 1);
        CHECKS.due("best of none", x.best(day, 0, 0), 0);
        CHECKS.due("one: of several the least as bits", x.best(day, 0, 1), 1);
        CHECKS.due("two", x.best(day, 0, 2), 3);
        CHECKS.due("three: several open three pieces", x.best(day, 0, 3), 7);
        CHECKS.due("for readers of content", x.best(day, 1, 3), 0);
        CHECKS.due("on LATE none is the fewest", x.best(LATE, 0, 3), 0);
        ClosedUntil y = Checks.told("piece f 1900 1 1;piece g in f 1900 1 1;piece a 1900 1 1;close content a 9;"
            + "close content f 9;close content f 8;close content f 7;close content f 6;");
        CHECKS.due("two of one piece or the single one", y.best(d(1906, 6, 1), 0, 2), 1);
        CHECKS.due("three that open two", y.best(d(1906, 6, 1), 0, 3), 14);
        CHECKS.due("two that open two", y.best(d(1907, 6, 1), 0, 2), 6);
        CHECKS.due("all three", y.best(d(1907, 6, 1), 0, 3), 7);
        int[][] none = {{-1, 0, 0}, {LATE + 1, 0, 0}, {0, -1, 0}, {0, 16, 0}, {0, 0, -1}, {0, 0, 4}, {MIN, 0, 0},
            {MAX, 0, 0}, {0, MIN, 0}, {0, MAX, 0}, {0, 0, MIN}, {0, 0, MAX}};
        for (int[] n : none) {
            CHECKS.due("best(" + n[0] + ", " + n[1] + ", " + n[2] + ")", x.best(n[0], n[1], n[2]), -1);
        }
    }

    private static void openWithout() {
        ClosedUntil x = holdings();
        int day = d(2040, 1, 1);
        CHECKS.due("without none", x.openWithout(day, 0, 0), 3);
        CHECKS.due("without bob", x.openWithout(day, 0, 4), 4);
        CHECKS.due("without bob, cid and until", x.openWithout(day, 0, 44), 5);
        CHECKS.due("without until, for 2", x.openWithout(day, 2, 32), 5);
        CHECKS.due("without all", x.openWithout(0, 0, 63), 5);
        CHECKS.due("LATE", x.openWithout(LATE, 0, 0), 5);
        int[][] none = {{-1, 0, 0}, {LATE + 1, 0, 0}, {0, -1, 0}, {0, 16, 0}, {0, 0, -1}, {0, 0, 64}, {MIN, 0, 0},
            {MAX, 0, 0}, {0, MIN, 0}, {0, MAX, 0}, {0, 0, MIN}, {0, 0, MAX}};
        for (int[] n : none) {
            CHECKS.due("openWithout(" + n[0] + ", " + n[1] + ", " + n[2] + ")", x.openWithout(n[0], n[1], n[2]), -1);
        }
    }

    private static void review() {
        ClosedUntil x = holdings();
        int[][] none = {{-1, 0, 0}, {6, 0, 0}, {0, -1, 0}, {0, LATE, 0}, {0, 0, -51}, {0, 0, 51}, {MIN, 0, 0},
            {MAX, 0, 0}, {0, MIN, 0}, {0, MAX, 0}, {0, 0, MIN}, {0, 0, MAX}};
        for (int[] n : none) {
            CHECKS.due("review(" + n[0] + ", " + n[1] + ", " + n[2] + ")", x.review(n[0], n[1], n[2]), -1);
        }
        CHECKS.due("nothing came", x.count(6), 0);
        for (int i = 1; i <= 5; i++) {
            CHECKS.due("review " + i, x.review(0, LATE - 1, i % 2 == 0 ? 50 : -50), i);
        }
        CHECKS.due("review 6", x.review(0, 0, 0), -1);
        CHECKS.due("review of another", x.review(5, 0, 1), 1);
        CHECKS.due("closure(0, 3)", x.closure(0, 3), 5);
        CHECKS.due("count(4)", x.count(4), 6);
        CHECKS.due("count(6)", x.count(6), 6);
        CHECKS.due("opens(3, 2)", x.opens(3, 2), d(2051, 1, 1));
    }

    private static void lift() {
        ClosedUntil x = holdings();
        int[][] wrong = {{-1, 0}, {6, 0}, {0, -2}, {0, LATE}, {MIN, 0}, {MAX, 0}, {0, MIN}, {0, MAX}};
        for (int[] w : wrong) {
            CHECKS.due("lift(" + w[0] + ", " + w[1] + ")", x.lift(w[0], w[1]), -2);
        }
        CHECKS.due("nothing came", x.count(6), 0);
        CHECKS.due("lift(2, ..)", x.lift(2, d(2020, 1, 1)), -1);
        CHECKS.due("ends(2, 3)", x.ends(2, 3), d(2020, 1, 1));
        CHECKS.due("lift(2, 0)", x.lift(2, 0), d(2020, 1, 1));
        CHECKS.due("ends(2, 3)", x.ends(2, 3), 0);
        CHECKS.due("lift(2, -1)", x.lift(2, -1), 0);
        CHECKS.due("ends(2, 3)", x.ends(2, 3), d(2060, 1, 1));
        CHECKS.due("lift(2, -1), again", x.lift(2, -1), -1);
        CHECKS.due("lift(5, last)", x.lift(5, LATE - 1), -1);
        CHECKS.due("count(5)", x.count(5), 32);
    }

    private static void died() {
        ClosedUntil x = holdings();
        int[][] wrong = {{-1, 0}, {3, 0}, {2, -2}, {2, LATE}, {0, d(1900, 4, 30)}, {MIN, 0}, {MAX, 0}, {2, MIN},
            {2, MAX}};
        for (int[] w : wrong) {
            CHECKS.due("died(" + w[0] + ", " + w[1] + ")", x.died(w[0], w[1]), -2);
        }
        CHECKS.due("nothing came", x.count(6), 0);
        CHECKS.due("died on the birth", x.died(0, d(1900, 5, 1)), d(1980, 2, 29));
        CHECKS.due("term(1, 1)", x.term(1, 1), d(1931, 1, 1));
        CHECKS.due("died no more", x.died(0, -1), d(1900, 5, 1));
        CHECKS.due("term(1, 1), by the birth", x.term(1, 1), d(2011, 1, 1));
        CHECKS.due("person(0, 1)", x.person(0, 1), -1);
        CHECKS.due("died without a birth", x.died(2, 0), -1);
        CHECKS.due("term(3, 3)", x.term(3, 3), d(1701, 1, 1));
        CHECKS.due("died no more", x.died(2, -1), 0);
        CHECKS.due("term(3, 3), by the TARGET", x.term(3, 3), d(2046, 4, 4));
        CHECKS.due("died on the last day", x.died(2, LATE - 1), -1);
        CHECKS.due("term(3, 3)", x.term(3, 3), LATE);
        CHECKS.due("count(6)", x.count(6), 5);
    }

    private static void put() {
        ClosedUntil x = holdings();
        int[][] wrong = {{-1, 0}, {5, 0}, {0, -2}, {0, 5}, {0, 0}, {0, 1}, {0, 3}, {2, 3}, {MIN, 0}, {MAX, 0},
            {0, MIN}, {0, MAX}};
        for (int[] w : wrong) {
            CHECKS.due("put(" + w[0] + ", " + w[1] + ")", x.put(w[0], w[1]), -2);
        }
        CHECKS.due("nothing came", x.count(6), 0);
        CHECKS.due("put(2, 4)", x.put(2, 4), 0);
        CHECKS.due("piece(3, 5)", x.piece(3, 5), 2);
        CHECKS.due("piece(0, 4)", x.piece(0, 4), 3);
        CHECKS.due("piece(4, 4)", x.piece(4, 4), 28);
        CHECKS.due("put(0, 3), now that it is not UNDER", x.put(0, 3), -1);
        CHECKS.due("piece(1, 5)", x.piece(1, 5), 4);
        CHECKS.due("put(4, 1)", x.put(4, 1), -2);
        CHECKS.due("put(0, -1)", x.put(0, -1), 3);
        CHECKS.due("put(0, -1), again", x.put(0, -1), -1);
        CHECKS.due("opens(1, 0)", x.opens(1, 0), d(2040, 1, 1));
        deepest();
    }

    private static void deepest() {
        StringBuilder text = new StringBuilder("piece a 1900 1 1;");
        for (int p = 1; p < 24; p++) {
            text.append("piece ").append((char) ('a' + p)).append(" 1900 1 1;");
        }
        ClosedUntil x = Checks.told(text.append("close content x 3;").toString());
        for (int p = 0; p < 23; p++) {
            CHECKS.due("put(" + p + ", next)", x.put(p, p + 1), -1);
        }
        CHECKS.due("the deepest", x.piece(0, 5), 23);
        CHECKS.due("all under it", x.piece(23, 4), (1 << 24) - 1);
        CHECKS.due("the deepest ends", x.ends(0, 0), d(1903, 1, 1));
        CHECKS.due("the deepest lists first", x.listed(0, 0), 0);
        CHECKS.due("no ring", x.put(23, 0), -2);
    }

    private static void undo() {
        ClosedUntil x = holdings();
        CHECKS.due("undo of none", x.undo(), -1);
        x.review(5, d(2049, 1, 1), 1);
        x.review(5, d(2040, 1, 1), -5);
        CHECKS.due("term", x.term(5, 3), d(2045, 1, 1));
        CHECKS.due("undo", x.undo(), 1);
        CHECKS.due("the later one stays", x.term(5, 3), d(2051, 1, 1));
        x.lift(5, 9);
        x.died(1, d(2000, 1, 1));
        x.put(3, -1);
        CHECKS.due("undo the put", x.undo(), 3);
        CHECKS.due("piece(3, 0)", x.piece(3, 0), 2);
        CHECKS.due("undo the death", x.undo(), 2);
        CHECKS.due("person(1, 1)", x.person(1, 1), -1);
        CHECKS.due("undo the lift", x.undo(), 1);
        CHECKS.due("closure(5, 4)", x.closure(5, 4), -1);
        CHECKS.due("undo the review", x.undo(), 0);
        CHECKS.due("closure(5, 3)", x.closure(5, 3), 0);
        CHECKS.due("undo of none", x.undo(), -1);
        for (int i = 0; i < 15; i++) {
            x.lift(0, i);
            CHECKS.due("count(6)", x.count(6), Math.min(12, i + 1));
        }
        for (int i = 11; i >= 0; i--) {
            CHECKS.due("undo, " + i + " more", x.undo(), i);
        }
        CHECKS.due("only the last 12", x.undo(), -1);
        CHECKS.due("closure(0, 4)", x.closure(0, 4), 2);
    }

    private static void keep() {
        ClosedUntil x = holdings();
        int[] none = {-1, 2, MIN, MAX};
        for (int k : none) {
            CHECKS.due("keep(" + k + ", false)", x.keep(k, false), false);
            CHECKS.due("keep(" + k + ", true)", x.keep(k, true), false);
        }
        CHECKS.due("nothing in 0", x.keep(0, true), false);
        CHECKS.due("nothing in 1", x.keep(1, true), false);
        CHECKS.due("lay 0", x.keep(0, false), true);
        x.review(5, 7, 10);
        x.lift(0, 3);
        x.died(1, d(2000, 1, 1));
        x.put(3, 1);
        CHECKS.due("laying is no ACT", x.count(6), 4);
        CHECKS.due("lay 1", x.keep(1, false), true);
        CHECKS.due("laying is no ACT", x.count(6), 4);
        x.review(5, 6, 10);
        x.lift(0, 4);
        CHECKS.due("back to 0", x.keep(0, true), true);
        CHECKS.due("nothing can be UNDONE", x.count(6), 0);
        CHECKS.due("undo()", x.undo(), -1);
        CHECKS.due("closure(5, 3)", x.closure(5, 3), 0);
        CHECKS.due("closure(0, 4)", x.closure(0, 4), -1);
        CHECKS.due("person(1, 1)", x.person(1, 1), -1);
        CHECKS.due("piece(3, 0)", x.piece(3, 0), 2);
        CHECKS.due("term(5, 3)", x.term(5, 3), d(2050, 1, 1));
        x.put(3, -1);
        CHECKS.due("back to 1", x.keep(1, true), true);
        CHECKS.due("closure(5, 3)", x.closure(5, 3), 1);
        CHECKS.due("closure(0, 4)", x.closure(0, 4), 3);
        CHECKS.due("person(1, 1)", x.person(1, 1), d(2000, 1, 1));
        CHECKS.due("piece(3, 0)", x.piece(3, 0), 1);
        CHECKS.due("term(5, 3)", x.term(5, 3), d(2060, 1, 1));
        x.review(5, 6, 10);
        CHECKS.due("back to 1, again", x.keep(1, true), true);
        CHECKS.due("term(5, 3), the KEEP is not changed", x.term(5, 3), d(2060, 1, 1));
        CHECKS.due("lay 0 anew", x.keep(0, false), true);
        x.lift(5, 1);
        CHECKS.due("back to 0", x.keep(0, true), true);
        CHECKS.due("term(5, 3)", x.term(5, 3), d(2060, 1, 1));
    }

    private static void count() {
        ClosedUntil x = holdings();
        x.review(1, 7, 10);
        x.review(4, 7, 10);
        x.review(4, 8, 10);
        x.lift(0, 3);
        x.lift(5, 0);
        Checks.feedBytes(x, new byte[60]);
        int[] want = {5, 3, 2, 6, 3, 33, 5, 60};
        for (int what = 0; what < want.length; what++) {
            CHECKS.due("count(" + what + ")", x.count(what), want[what]);
        }
        int[] none = {-1, 8, MIN, MAX};
        for (int what : none) {
            CHECKS.due("count(" + what + ")", x.count(what), -1);
        }
    }
}

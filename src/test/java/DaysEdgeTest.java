/** The ends of the calendar (Terms, ==== 1) and of the promises 4 to 6: a method for each sentence. */
public final class DaysEdgeTest {
    private static final Checks CHECKS = new Checks();
    private static final int LATE = ClosedUntil.LATE;
    private static final int LAST = 219144;

    public static void main(String[] args) {
        firstDay();
        lastDay();
        leapYearsAsOf400();
        monthsHaveTheirDays();
        dayOfNone();
        dateTakesDays();
        dateTakesWhats();
        weekGoesRound();
        plusTakesDays();
        plusTakesYears();
        plusNothing();
        plusFromThe29thOfFebruary();
        plusFromThe28thOfFebruary();
        plusAheadOfTheFirstDay();
        plusBehindTheLastDay();
        plusOnLate();
        CHECKS.finish();
    }

    /** "from the first of January 1700 (0)". */
    private static void firstDay() {
        ClosedUntil x = new ClosedUntil();
        CHECKS.due("day(1700, 1, 1)", x.day(1700, 1, 1), 0);
        CHECKS.due("day(1700, 1, 2)", x.day(1700, 1, 2), 1);
        CHECKS.due("the day ahead of all", x.day(1699, 12, 31), -1);
        CHECKS.due("the year ahead of all", x.day(1699, 1, 1), -1);
        CHECKS.due("date(0, 0)", x.date(0, 0), 1700);
        CHECKS.due("date(0, 1)", x.date(0, 1), 1);
        CHECKS.due("date(0, 2)", x.date(0, 2), 1);
        CHECKS.due("date(0, 3), a Friday", x.date(0, 3), 4);
    }

    /** "to the last of December 2299 (219144); LATE (219145) is any day behind these". */
    private static void lastDay() {
        ClosedUntil x = new ClosedUntil();
        CHECKS.due("LATE", LATE, LAST + 1);
        CHECKS.due("day(2299, 12, 31)", x.day(2299, 12, 31), LAST);
        CHECKS.due("day(2299, 12, 30)", x.day(2299, 12, 30), LAST - 1);
        CHECKS.due("the day behind all", x.day(2300, 1, 1), -1);
        CHECKS.due("the year behind all", x.day(2300, 12, 31), -1);
        CHECKS.due("date(219144, 0)", x.date(LAST, 0), 2299);
        CHECKS.due("date(219144, 1)", x.date(LAST, 1), 12);
        CHECKS.due("date(219144, 2)", x.date(LAST, 2), 31);
        CHECKS.due("date(219144, 3), a Sunday", x.date(LAST, 3), 6);
    }

    /** "leap years as of 400 years": each year's February and its length. */
    private static void leapYearsAsOf400() {
        for (int year = 1700; year <= 2299; year++) {
            ClosedUntil x = new ClosedUntil();
            boolean leap = year == 2000 || year % 4 == 0 && year % 100 != 0;
            int march = x.day(year, 3, 1);
            CHECKS.due("the 28th of February " + year, x.day(year, 2, 28), leap ? march - 2 : march - 1);
            CHECKS.due("the 29th of February " + year, x.day(year, 2, 29), leap ? march - 1 : -1);
            CHECKS.due("the 30th of February " + year, x.day(year, 2, 30), -1);
            int days = x.day(year, 12, 31) - x.day(year, 1, 1) + 1;
            CHECKS.due("days of " + year, days, leap ? 366 : 365);
            int before = year == 1700 ? -1 : x.day(year - 1, 12, 31);
            CHECKS.due("the first of January " + year, x.day(year, 1, 1), before + 1);
        }
    }

    /** "The DAY of a date; NONE: there is none such": each month's first and last day. */
    private static void monthsHaveTheirDays() {
        int[] lengths = {31, 28, 31, 30, 31, 30, 31, 31, 30, 31, 30, 31};
        int[] years = {1700, 1900, 1999, 2000, 2004, 2299};
        for (int year : years) {
            ClosedUntil x = new ClosedUntil();
            for (int month = 1; month <= 12; month++) {
                boolean leap = year == 2000 || year == 2004;
                int length = lengths[month - 1] + (month == 2 && leap ? 1 : 0);
                String call = "day(" + year + ", " + month + ", ..)";
                CHECKS.due(call, x.day(year, month, 1), Checks.d(year, month, 1));
                CHECKS.due(call, x.day(year, month, length), Checks.d(year, month, length));
                int m = month;
                CHECKS.dueRefused(call, day -> x.day(year, m, day), 0, length + 1, -1);
            }
        }
    }

    /** "NONE: there is none such": years and months on both sides, and all wrong at once. */
    private static void dayOfNone() {
        ClosedUntil x = new ClosedUntil();
        CHECKS.dueRange("day(year, 1, 1)", year -> x.day(year, 1, 1), 1700, 2299, -1);
        CHECKS.dueRange("day(year, 12, 31)", year -> x.day(year, 12, 31), 1700, 2299, -1);
        CHECKS.dueRange("day(year, 2, 28)", year -> x.day(year, 2, 28), 1700, 2299, -1);
        CHECKS.dueRange("day(1700, month, 1)", month -> x.day(1700, month, 1), 1, 12, -1);
        CHECKS.dueRange("day(2299, month, 1)", month -> x.day(2299, month, 1), 1, 12, -1);
        CHECKS.dueRange("day(1700, 1, day)", day -> x.day(1700, 1, day), 1, 31, -1);
        CHECKS.dueRange("day(2299, 12, day)", day -> x.day(2299, 12, day), 1, 31, -1);
        CHECKS.due("day(0, 0, 0)", x.day(0, 0, 0), -1);
        CHECKS.due("day(-1, -1, -1)", x.day(-1, -1, -1), -1);
        CHECKS.due("a leap day ahead of all", x.day(1696, 2, 29), -1);
        CHECKS.due("a leap day behind all", x.day(2304, 2, 29), -1);
    }

    /** "Of a DAY (0 to 219144) ..; NONE: others". */
    private static void dateTakesDays() {
        for (int what = 0; what < 4; what++) {
            int w = what;
            ClosedUntil x = new ClosedUntil();
            CHECKS.dueRange("date(day, " + what + ")", day -> x.date(day, w), 0, LAST, -1);
        }
    }

    /** "what 0 .. 3 ..; NONE: others". */
    private static void dateTakesWhats() {
        ClosedUntil x = new ClosedUntil();
        int[] days = {0, 100000, LAST};
        for (int day : days) {
            CHECKS.dueRange("date(" + day + ", what)", what -> x.date(day, what), 0, 3, -1);
        }
        CHECKS.due("date(-1, 4)", x.date(-1, 4), -1);
        CHECKS.due("date(LATE, -1)", x.date(LATE, -1), -1);
    }

    /** "of the week (0 Monday)": behind 6 comes 0. */
    private static void weekGoesRound() {
        ClosedUntil x = new ClosedUntil();
        CHECKS.due("a Sunday", x.date(2, 3), 6);
        CHECKS.due("the Monday behind it", x.date(3, 3), 0);
        CHECKS.due("the 18th of November 2026, a Wednesday", x.date(x.day(2026, 11, 18), 3), 2);
        CHECKS.due("the last Saturday", x.date(LAST - 1, 3), 5);
        CHECKS.due("the last Monday", x.date(LAST - 6, 3), 0);
    }

    /** "A DAY (0 to LATE) ..; NONE: others". */
    private static void plusTakesDays() {
        ClosedUntil x = new ClosedUntil();
        int[] years = {-600, -1, 0, 1, 600};
        for (int n : years) {
            CHECKS.dueRange("plus(day, " + n + ")", day -> x.plus(day, n), 0, LATE, -1);
        }
    }

    /** ".. and YEARS (-600 to 600); NONE: others". */
    private static void plusTakesYears() {
        int[] days = {0, 100000, LAST, LATE};
        for (int day : days) {
            ClosedUntil x = new ClosedUntil();
            CHECKS.dueRange("plus(" + day + ", years)", n -> x.plus(day, n), -600, 600, -1);
        }
    }

    private static void plusNothing() {
        ClosedUntil x = new ClosedUntil();
        int[] days = {0, 1, x.day(1896, 2, 29), LAST - 1, LAST, LATE};
        for (int day : days) {
            CHECKS.due("plus(" + day + ", 0)", x.plus(day, 0), day);
        }
    }

    /** "of the 29th of February, where there is none, the 28th". */
    private static void plusFromThe29thOfFebruary() {
        ClosedUntil x = new ClosedUntil();
        int day = x.day(1896, 2, 29);
        CHECKS.due("a year on", x.plus(day, 1), Checks.d(1897, 2, 28));
        CHECKS.due("a year back", x.plus(day, -1), Checks.d(1895, 2, 28));
        CHECKS.due("4 years on: 1900 has none", x.plus(day, 4), Checks.d(1900, 2, 28));
        CHECKS.due("8 years on", x.plus(day, 8), Checks.d(1904, 2, 29));
        CHECKS.due("4 years back", x.plus(day, -4), Checks.d(1892, 2, 29));
        CHECKS.due("to 2000, which has one", x.plus(day, 104), Checks.d(2000, 2, 29));
        CHECKS.due("to 2100, which has none", x.plus(day, 204), Checks.d(2100, 2, 28));
        CHECKS.due("to 2200, which has none", x.plus(day, 304), Checks.d(2200, 2, 28));
        CHECKS.due("to 1800, which has none", x.plus(day, -96), Checks.d(1800, 2, 28));
        CHECKS.due("to 1700, which has none", x.plus(day, -196), Checks.d(1700, 2, 28));
        CHECKS.due("ahead of 1700", x.plus(day, -197), 0);
        CHECKS.due("to 2299", x.plus(day, 403), Checks.d(2299, 2, 28));
        CHECKS.due("behind 2299", x.plus(day, 404), LATE);
    }

    /** "the same day and month": no 29th comes of a 28th. */
    private static void plusFromThe28thOfFebruary() {
        ClosedUntil x = new ClosedUntil();
        CHECKS.due("on into a leap year", x.plus(x.day(1895, 2, 28), 1), Checks.d(1896, 2, 28));
        CHECKS.due("back into a leap year", x.plus(x.day(1897, 2, 28), -1), Checks.d(1896, 2, 28));
        CHECKS.due("the first of March, on into a leap year", x.plus(x.day(1895, 3, 1), 1), Checks.d(1896, 3, 1));
        CHECKS.due("the first of March, from a leap year", x.plus(x.day(1896, 3, 1), 1), Checks.d(1897, 3, 1));
        CHECKS.due("the last of December of a leap year", x.plus(x.day(1896, 12, 31), 1), Checks.d(1897, 12, 31));
    }

    /** "ahead of DAY 0: 0". */
    private static void plusAheadOfTheFirstDay() {
        ClosedUntil x = new ClosedUntil();
        CHECKS.due("plus(0, -1)", x.plus(0, -1), 0);
        CHECKS.due("plus(0, -600)", x.plus(0, -600), 0);
        CHECKS.due("the last of 1700, a year back", x.plus(x.day(1700, 12, 31), -1), 0);
        CHECKS.due("just DAY 0", x.plus(x.day(1701, 1, 1), -1), 0);
        CHECKS.due("just DAY 1", x.plus(x.day(1701, 1, 2), -1), 1);
        CHECKS.due("the last day, to 1700", x.plus(LAST, -599), Checks.d(1700, 12, 31));
        CHECKS.due("the last day, ahead of 1700", x.plus(LAST, -600), 0);
    }

    /** "LATE is any day behind these". */
    private static void plusBehindTheLastDay() {
        ClosedUntil x = new ClosedUntil();
        CHECKS.due("plus(219144, 1)", x.plus(LAST, 1), LATE);
        CHECKS.due("plus(219144, 600)", x.plus(LAST, 600), LATE);
        CHECKS.due("the first of 2299, a year on", x.plus(x.day(2299, 1, 1), 1), LATE);
        CHECKS.due("just the last day", x.plus(x.day(2298, 12, 31), 1), LAST);
        CHECKS.due("DAY 0, to 2299", x.plus(0, 599), Checks.d(2299, 1, 1));
        CHECKS.due("DAY 0, behind 2299", x.plus(0, 600), LATE);
    }

    /** "LATE and YEARS: LATE". */
    private static void plusOnLate() {
        ClosedUntil x = new ClosedUntil();
        int[] years = {-600, -1, 0, 1, 600};
        for (int n : years) {
            CHECKS.due("plus(LATE, " + n + ")", x.plus(LATE, n), LATE);
        }
    }
}

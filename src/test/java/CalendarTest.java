import java.time.LocalDate;

/** Promises 4 to 6: day, date, plus, against the library's calendar; an object is good for 512 calls. */
public final class CalendarTest {
    private static final Checks CHECKS = new Checks();
    private static final LocalDate FIRST = LocalDate.of(1700, 1, 1);

    public static void main(String[] args) {
        allDays();
        noDays();
        years();
        noYears();
        CHECKS.finish();
    }

    private static void allDays() {
        ClosedUntil x = new ClosedUntil();
        LocalDate date = FIRST;
        for (int day = 0; day < ClosedUntil.LATE; day++) {
            if (day % 100 == 0) {
                x = new ClosedUntil();
            }
            CHECKS.due("day of " + date, x.day(date.getYear(), date.getMonthValue(), date.getDayOfMonth()), day);
            CHECKS.due("date(" + day + ", 0)", x.date(day, 0), date.getYear());
            CHECKS.due("date(" + day + ", 1)", x.date(day, 1), date.getMonthValue());
            CHECKS.due("date(" + day + ", 2)", x.date(day, 2), date.getDayOfMonth());
            CHECKS.due("date(" + day + ", 3)", x.date(day, 3), date.getDayOfWeek().getValue() - 1);
            date = date.plusDays(1);
        }
        CHECKS.due("the year behind all days", date.getYear(), 2300);
    }

    private static void noDays() {
        ClosedUntil x = new ClosedUntil();
        int[][] none = {{1699, 12, 31}, {2300, 1, 1}, {1900, 0, 1}, {1900, 13, 1}, {1900, 1, 0}, {1900, 1, 32},
            {1900, 4, 31}, {1700, 2, 29}, {1800, 2, 29}, {1900, 2, 29}, {2100, 2, 29}, {2000, 2, 30}, {2023, 2, 29},
            {1900, -1, 1}, {1900, 1, -1}, {-1, 1, 1}, {Integer.MIN_VALUE, 1, 1}, {Integer.MAX_VALUE, 1, 1},
            {1900, Integer.MIN_VALUE, 1}, {1900, Integer.MAX_VALUE, 1}, {1900, 1, Integer.MIN_VALUE},
            {1900, 1, Integer.MAX_VALUE}};
        for (int[] d : none) {
            CHECKS.due("day(" + d[0] + ", " + d[1] + ", " + d[2] + ")", x.day(d[0], d[1], d[2]), -1);
        }
        int[] outside = {-1, -2, ClosedUntil.LATE, ClosedUntil.LATE + 1, Integer.MIN_VALUE, Integer.MAX_VALUE};
        for (int day : outside) {
            for (int what = 0; what < 4; what++) {
                CHECKS.due("date(" + day + ", " + what + ")", x.date(day, what), -1);
            }
        }
        int[] others = {-1, 4, Integer.MIN_VALUE, Integer.MAX_VALUE};
        for (int what : others) {
            CHECKS.due("date(0, " + what + ")", x.date(0, what), -1);
        }
    }

    private static void years() {
        int[] steps = {-600, -400, -100, -50, -4, -1, 0, 1, 3, 4, 10, 96, 100, 200, 400, 599, 600};
        for (int day = 0; day < ClosedUntil.LATE; day += 7) {
            ClosedUntil x = new ClosedUntil();
            for (int n : steps) {
                duePlus(x, day, n);
            }
        }
        for (int n = -600; n <= 600; n++) {
            ClosedUntil x = new ClosedUntil();
            duePlus(x, Checks.d(2000, 2, 29), n);
            duePlus(x, Checks.d(1704, 2, 29), n);
            duePlus(x, Checks.d(2296, 2, 29), n);
            duePlus(x, 0, n);
            duePlus(x, ClosedUntil.LATE - 1, n);
            CHECKS.due("plus(LATE, " + n + ")", x.plus(ClosedUntil.LATE, n), ClosedUntil.LATE);
        }
    }

    private static void duePlus(ClosedUntil x, int day, int n) {
        LocalDate date = FIRST.plusDays(day).plusYears(n);
        int want = Checks.d(date.getYear(), date.getMonthValue(), date.getDayOfMonth());
        want = Math.max(0, Math.min(ClosedUntil.LATE, want));
        CHECKS.due("plus(" + day + ", " + n + ")", x.plus(day, n), want);
    }

    private static void noYears() {
        ClosedUntil x = new ClosedUntil();
        int[][] none = {{-1, 0}, {ClosedUntil.LATE + 1, 0}, {0, -601}, {0, 601}, {ClosedUntil.LATE, 601},
            {Integer.MIN_VALUE, 0}, {Integer.MAX_VALUE, 0}, {0, Integer.MIN_VALUE}, {0, Integer.MAX_VALUE}};
        for (int[] p : none) {
            CHECKS.due("plus(" + p[0] + ", " + p[1] + ")", x.plus(p[0], p[1]), -1);
        }
    }
}

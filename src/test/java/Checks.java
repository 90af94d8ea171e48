import java.nio.charset.StandardCharsets;
import java.time.LocalDate;
import java.time.temporal.ChronoUnit;
import java.util.function.IntUnaryOperator;

/** What the tests share: counting wrong answers, days by the library's calendar, texts on the tape. */
final class Checks {
    private static final LocalDate FIRST = LocalDate.of(1700, 1, 1);

    private int wrong = 0;

    void due(String call, long got, long want) {
        if (got != want) {
            wrong++;
            System.out.println(call + " answered " + got + ", due is " + want);
        }
    }

    void due(String call, boolean got, boolean want) {
        due(call, got ? 1 : 0, want ? 1 : 0);
    }

    void due(String call, String got, String want) {
        if (!got.equals(want)) {
            wrong++;
            System.out.println(call + " answered " + got + ", due is " + want);
        }
    }

    /** The last values that are taken and the first that are refused, on both sides. */
    void dueRange(String call, IntUnaryOperator answer, int least, int most, int refusal) {
        due(call + " takes " + least, answer.applyAsInt(least) != refusal, true);
        due(call + " takes " + most, answer.applyAsInt(most) != refusal, true);
        dueRefused(call, answer, least - 1, most + 1, refusal);
    }

    /** All that is not between these is refused. */
    void dueRefused(String call, IntUnaryOperator answer, int below, int above, int refusal) {
        int[] outside = {below, above, Integer.MIN_VALUE, Integer.MAX_VALUE, below - 1, above + 1};
        for (int value : outside) {
            due(call + " of " + value, answer.applyAsInt(value), refusal);
        }
    }

    void finish() {
        if (wrong != 0) {
            System.out.println(wrong + " answers are not as due");
            System.exit(1);
        }
    }

    static int d(int year, int month, int day) {
        return (int) ChronoUnit.DAYS.between(FIRST, LocalDate.of(year, month, day));
    }

    /** What text answers for a fault. */
    static int fault(int place, int kind) {
        return -2 - (8 * place + kind);
    }

    static int feedBytes(ClosedUntil x, byte[] bytes) {
        int answer = x.count(7);
        for (int from = 0; from < bytes.length; from += 20) {
            int[] words = new int[5];
            for (int i = 0; i < 20; i++) {
                int b = from + i < bytes.length ? bytes[from + i] & 255 : 0;
                words[i / 4] = words[i / 4] << 8 | b;
            }
            answer = x.feed(words[0], words[1], words[2], words[3], words[4]);
        }
        return answer;
    }

    static int tell(ClosedUntil x, String text) {
        byte[] bytes = text.getBytes(StandardCharsets.ISO_8859_1);
        feedBytes(x, bytes);
        return x.text(bytes.length);
    }

    static ClosedUntil told(String text) {
        ClosedUntil x = new ClosedUntil();
        int lines = tell(x, text);
        if (lines < 0) {
            throw new IllegalStateException("the test's own text has a fault: " + lines + ": " + text);
        }
        return x;
    }

    /** The exception's simple name, or the answer. */
    static String sooner(ClosedUntil x, int closure, int piece, int readers) {
        try {
            return String.valueOf(x.sooner(closure, piece, readers));
        } catch (RuntimeException e) {
            return e.getClass().getName();
        }
    }

    void dueSooner(ClosedUntil x, int closure, int piece, int readers, String want) {
        due("sooner(" + closure + ", " + piece + ", " + readers + ")", sooner(x, closure, piece, readers), want);
    }
}

import java.util.List;
import java.util.function.Consumer;
import java.util.function.Function;

/**
 * What a call must leave as it was: an object that was asked is held against a twin that was not, by all that
 * can be read of it, by what can be undone, by what is kept, and by what is on the tape.
 */
final class Twins {
    /** Each look has objects of its own, as some change what they look at and 512 calls are soon used up. */
    private static final List<Function<ClosedUntil, String>> LOOKS = List.of(Twins::all, Twins::byUndoing,
        x -> byGoingBack(x, 0), x -> byGoingBack(x, 1), Twins::byReadingTheTape);

    private Twins() {
    }

    static void dueAsBefore(Checks checks, String what, Consumer<ClosedUntil> before, Consumer<ClosedUntil> refused) {
        for (Function<ClosedUntil, String> look : LOOKS) {
            ClosedUntil asked = new ClosedUntil();
            before.accept(asked);
            refused.accept(asked);
            ClosedUntil twin = new ClosedUntil();
            before.accept(twin);
            checks.due(what + ": all is as it was", look.apply(asked), look.apply(twin));
        }
    }

    static void dueSame(Checks checks, String what, ClosedUntil one, ClosedUntil other) {
        checks.due(what, all(one), all(other));
    }

    private static String all(ClosedUntil x) {
        return told(x) + " " + opening(x);
    }

    private static String told(ClosedUntil x) {
        StringBuilder s = new StringBuilder();
        int[] counts = new int[8];
        for (int what = 0; what < 8; what++) {
            counts[what] = x.count(what);
            s.append(counts[what]).append(' ');
        }
        for (int p = 0; p < counts[0]; p++) {
            for (int what = 0; what < 6; what++) {
                s.append(x.piece(p, what)).append(' ');
            }
        }
        for (int p = 0; p < counts[1]; p++) {
            for (int what = 0; what < 3; what++) {
                s.append(x.person(p, what)).append(' ');
            }
        }
        for (int c = 0; c < counts[3]; c++) {
            for (int what = 0; what < 7; what++) {
                s.append(x.closure(c, what)).append(' ');
            }
        }
        return s.toString();
    }

    private static String opening(ClosedUntil x) {
        StringBuilder s = new StringBuilder();
        int pieces = x.count(0);
        int closures = x.count(3);
        for (int p = 0; p < pieces; p++) {
            s.append(x.opens(p, 0)).append(' ').append(x.reason(p, 0)).append(' ').append(x.listed(p, 0)).append(' ');
            for (int c = 0; c < closures; c++) {
                s.append(x.ends(c, p)).append(' ');
            }
        }
        return s.toString();
    }

    private static String byUndoing(ClosedUntil x) {
        StringBuilder s = new StringBuilder();
        int pieces = Math.min(5, x.count(0));
        for (int i = 0; i < 13; i++) {
            s.append(x.undo()).append(' ').append(x.count(4)).append(' ').append(x.count(5)).append(' ');
            for (int p = 0; p < pieces; p++) {
                s.append(x.piece(p, 0)).append(' ').append(x.opens(p, 0)).append(' ');
            }
        }
        return s.toString();
    }

    private static String byGoingBack(ClosedUntil x, int k) {
        return x.keep(k, true) + " " + all(x);
    }

    private static String byReadingTheTape(ClosedUntil x) {
        return x.text(x.count(7)) + " " + all(x);
    }
}

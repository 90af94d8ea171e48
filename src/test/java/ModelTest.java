import java.nio.ByteBuffer;
import java.nio.charset.StandardCharsets;
import java.util.Arrays;
import java.util.NoSuchElementException;
import java.util.Random;

/** All promises: runs by chance, each call answered by the model and by the program. */
public final class ModelTest {
    private static final int RUNS = 1500;
    private static final int CALLS = 200;
    /** Of 512 that an object is good for, a text may take 51. */
    private static final int MOST_CALLS = 512 - 51;
    private static final int LATE = ClosedUntil.LATE;
    private static final int[] ODD = {Integer.MIN_VALUE, Integer.MAX_VALUE, -3, -2, -1, 0, 1, 12, 16, 24, 31, 32, 4096,
        LATE - 1, LATE, LATE + 1};

    private final Random random;
    private final ClosedUntil program = new ClosedUntil();
    private final Model model = new Model();
    private final StringBuilder story = new StringBuilder();
    private boolean wrong = false;
    private int calls = 0;

    private ModelTest(long seed) {
        random = new Random(seed);
    }

    public static void main(String[] args) {
        int wrongRuns = 0;
        int[] faults = new int[6];
        for (int run = 0; run < RUNS; run++) {
            ModelTest test = new ModelTest(run);
            test.go(faults);
            if (test.wrong) {
                wrongRuns++;
                System.out.println("run " + run + ":\n" + test.story);
            }
            if (wrongRuns == 3) {
                break;
            }
        }
        if (wrongRuns > 0) {
            System.exit(1);
        }
        // Chance must have met all of them, or the runs would say less than they seem to.
        for (int kind = 0; kind < faults.length; kind++) {
            if (faults[kind] == 0) {
                System.out.println("no text with fault " + kind + " (0: none) was made");
                System.exit(1);
            }
        }
    }

    private void go(int[] faults) {
        tell(faults, false);
        for (int i = 0; i < CALLS && calls < MOST_CALLS && !wrong; i++) {
            if (random.nextInt(60) == 0) {
                tell(faults, random.nextInt(4) > 0);
            } else {
                call();
            }
        }
    }

    private void due(String call, Object got, Object want) {
        calls++;
        story.append("  ").append(call).append(" = ").append(got).append('\n');
        if (!got.equals(want)) {
            wrong = true;
            story.append("    due is ").append(want).append('\n');
        }
    }

    private void tell(int[] faults, boolean spoil) {
        Texts texts = new Texts(random);
        String text = random.nextInt(5) == 0 ? texts.makeFull() : texts.make(spoil && random.nextBoolean());
        if (text.length() > 1000) {
            text = texts.make(false);
        }
        if (spoil) {
            text = texts.spoilt(text);
        }
        byte[] bytes = Arrays.copyOf(text.getBytes(StandardCharsets.ISO_8859_1), (text.length() + 19) / 20 * 20);
        for (int from = 0; from < bytes.length; from += 20) {
            ByteBuffer b = ByteBuffer.wrap(bytes, from, 20);
            int[] n = {b.getInt(), b.getInt(), b.getInt(), b.getInt(), b.getInt()};
            due("feed", program.feed(n[0], n[1], n[2], n[3], n[4]), model.feed(n));
        }
        int answer = model.text(text.length());
        due("text \"" + text + "\"", program.text(text.length()), answer);
        faults[answer < -1 ? (-2 - answer) % 8 : 0]++;
    }

    private int odd() {
        return ODD[random.nextInt(ODD.length)];
    }

    private int upTo(int most) {
        return random.nextInt(40) == 0 ? odd() : random.nextInt(most + 1);
    }

    private int aPiece() {
        return upTo(Math.max(0, model.count(0) - 1));
    }

    private int aPerson() {
        return upTo(Math.max(0, model.count(1) - 1));
    }

    private int aClosure() {
        return upTo(Math.max(0, model.count(3) - 1));
    }

    private int readers() {
        return random.nextBoolean() ? 0 : upTo(15);
    }

    /** Often a day on which something happens, or one beside it. */
    private int aDay() {
        int chance = random.nextInt(20);
        if (chance == 0) {
            return odd();
        }
        if (chance < 12) {
            int day = model.ends(random.nextInt(12), random.nextInt(24));
            if (day >= 0) {
                return day + random.nextInt(3) - 1;
            }
        }
        return Checks.d(1850, 1, 1) + random.nextInt(60000);
    }

    private void call() {
        int chance = random.nextInt(100);
        if (chance < 30) {
            actCall();
        } else if (chance < 55) {
            toldCall();
        } else {
            openingCall();
        }
    }

    private void actCall() {
        switch (random.nextInt(8)) {
            case 0, 1 -> {
                int c = aClosure();
                int d = aDay();
                int y = random.nextInt(20) == 0 ? odd() : random.nextInt(101) - 50;
                due("review(" + c + ", " + d + ", " + y + ")", program.review(c, d, y), model.review(c, d, y));
            }
            case 2 -> {
                int c = aClosure();
                int d = random.nextInt(3) == 0 ? -1 : aDay();
                due("lift(" + c + ", " + d + ")", program.lift(c, d), model.lift(c, d));
            }
            case 3 -> {
                int p = aPerson();
                int d = random.nextInt(3) == 0 ? -1 : aDay();
                due("died(" + p + ", " + d + ")", program.died(p, d), model.died(p, d));
            }
            case 4, 5 -> {
                int p = aPiece();
                int q = random.nextInt(6) == 0 ? -1 : aPiece();
                due("put(" + p + ", " + q + ")", program.put(p, q), model.put(p, q));
            }
            case 6 -> due("undo()", program.undo(), model.undo());
            default -> {
                int k = random.nextInt(10) == 0 ? odd() : random.nextInt(2);
                boolean back = random.nextInt(3) > 0;
                due("keep(" + k + ", " + back + ")", program.keep(k, back), model.keep(k, back));
            }
        }
    }

    private void toldCall() {
        int what = upTo(7);
        int day = aDay();
        switch (random.nextInt(8)) {
            case 0 -> {
                int p = aPiece();
                due("piece(" + p + ", " + what + ")", program.piece(p, what), model.piece(p, what));
            }
            case 1 -> {
                int p = aPerson();
                due("person(" + p + ", " + what + ")", program.person(p, what), model.person(p, what));
            }
            case 2, 3 -> {
                int c = aClosure();
                due("closure(" + c + ", " + what + ")", program.closure(c, what), model.closure(c, what));
            }
            case 4 -> due("count(" + what + ")", program.count(what), model.count(what));
            case 5 -> due("date(" + day + ", " + what + ")", program.date(day, what), model.date(day, what));
            case 6 -> {
                int y = random.nextInt(1204) - 602;
                due("plus(" + day + ", " + y + ")", program.plus(day, y), model.plus(day, y));
            }
            default -> {
                int y = random.nextInt(10) == 0 ? odd() : 1698 + random.nextInt(604);
                int m = upTo(13);
                int d = upTo(32);
                due("day(" + y + ", " + m + ", " + d + ")", program.day(y, m, d), model.day(y, m, d));
            }
        }
    }

    private void openingCall() {
        int c = aClosure();
        int p = aPiece();
        int d = aDay();
        int r = readers();
        int n = upTo(3);
        int some = random.nextInt(20) == 0 ? odd() : random.nextInt(1 << Math.min(12, model.count(3)));
        String pr = "(" + p + ", " + r + ")";
        String dr = "(" + d + ", " + r + ")";
        switch (random.nextInt(13)) {
            case 0 -> due("term(" + c + ", " + p + ")", program.term(c, p), model.term(c, p));
            case 1 -> due("ends(" + c + ", " + p + ")", program.ends(c, p), model.ends(c, p));
            case 2 -> due("opens" + pr, program.opens(p, r), model.opens(p, r));
            case 3 -> due("allOf" + pr, program.allOf(p, r), model.allOf(p, r));
            case 4 -> due("reason" + pr, program.reason(p, r), model.reason(p, r));
            case 5 -> due("closedBy(" + p + ", " + d + ")", program.closedBy(p, d), model.closedBy(p, d));
            case 6 -> due("sooner(" + c + ", " + p + ", " + r + ")", Checks.sooner(program, c, p, r),
                soonerOfModel(c, p, r));
            case 7 -> due("open" + dr, program.open(d, r), model.open(d, r));
            case 8 -> due("next" + dr, program.next(d, r), model.next(d, r));
            case 9 -> due("listed" + pr, program.listed(p, r), model.listed(p, r));
            case 10 -> due("mustGo(" + p + ", " + d + ", " + r + ")", program.mustGo(p, d, r), model.mustGo(p, d, r));
            case 11 -> due("best(" + d + ", " + r + ", " + n + ")", program.best(d, r, n), model.best(d, r, n));
            default -> due("openWithout(" + d + ", " + r + ", " + some + ")", program.openWithout(d, r, some),
                model.openWithout(d, r, some));
        }
    }

    private String soonerOfModel(int c, int p, int r) {
        try {
            return String.valueOf(model.sooner(c, p, r));
        } catch (NoSuchElementException e) {
            return e.getClass().getName();
        }
    }
}

import java.util.function.Consumer;

/** ACTS, undoing and KEEPS (Terms, ==== 2), and the promises 23 to 29: a method for each sentence. */
public final class ActsEdgeTest {
    private static final Checks CHECKS = new Checks();
    private static final int LATE = ClosedUntil.LATE;
    private static final int LAST = LATE - 1;
    private static final int MIN = Integer.MIN_VALUE;
    private static final int MAX = Integer.MAX_VALUE;
    /** Pieces: 0 a, 1 b in a, 2 c in b, 3 e. Closures: 0 content a, 1 p (born), 2 r, 3 deposit, 4 until c. */
    private static final String HOLDINGS = "person p born 1900 1 1;person r;deposit d 1910 1 1;"
        + "piece a 1900 1 1 of p;piece b in a 1910 1 1 of r;piece c in b 1920 1 1 from d;piece e 1930 1 1;"
        + "close content a 10;close person p 10 20 30;close person r 10 20 30;close deposit d 5 whole;"
        + "close until c 1950 1 1;";

    public static void main(String[] args) {
        reviewTakes();
        reviewRefused();
        reviewsAtMost5();
        liftTakes();
        liftAnswersWhatWas();
        liftRefused();
        diedTakes();
        diedAnswersWhatWas();
        diedAheadOfTheBirth();
        diedRefused();
        putTakes();
        putAnswersWhatWas();
        putUnderItself();
        putRefused();
        undoOfNone();
        undoOfEach();
        undoAnswersHowMany();
        undoOfTheLast12();
        undoneActsMakeRoom();
        reviewsUndone();
        refusedActsCannotBeUndone();
        keepTakes();
        keepOfNothing();
        keepHoldsAll();
        keepTwice();
        keepHoldsReviews();
        keepsAreApart();
        keepAndUndo();
        keepBackRefused();
        keepsAndTheTape();
        textForgetsActs();
        faultForgetsNothing();
        countTakes();
        countAtTheEnds();
        countOfTheTape();
        CHECKS.finish();
    }

    private static int d(int year, int month, int day) {
        return Checks.d(year, month, day);
    }

    private static ClosedUntil told() {
        return Checks.told(HOLDINGS);
    }

    /** With something in all that a call could spoil. */
    private static void toldWithActs(ClosedUntil x) {
        actsOn(x);
        Checks.feedBytes(x, "person a;person b;  ".getBytes());
    }

    private static void actsOn(ClosedUntil x) {
        Checks.tell(x, HOLDINGS);
        x.review(0, 5, 1);
        x.keep(0, false);
        x.review(0, 4, 2);
        x.lift(1, d(1919, 1, 1));
        x.died(1, d(1940, 1, 1));
        x.keep(1, false);
        x.put(3, 2);
        x.review(4, 9, -1);
    }

    private static void dueAsBefore(String what, Consumer<ClosedUntil> refused) {
        Twins.dueAsBefore(CHECKS, what, ActsEdgeTest::toldWithActs, refused);
    }

    // ---- promise 23

    /** "A REVIEW of a CLOSURE on a DAY (0 to 219144) by YEARS (-50 to 50): how many it has". */
    private static void reviewTakes() {
        CHECKS.dueRange("review(c, 0, 0)", c -> told().review(c, 0, 0), 0, 4, -1);
        CHECKS.dueRange("review(c, 0, 0) of all", c -> Full.told().review(c, 0, 0), 0, 11, -1);
        CHECKS.dueRange("review(0, day, 0)", day -> told().review(0, day, 0), 0, LAST, -1);
        CHECKS.dueRange("review(0, 0, years)", years -> told().review(0, 0, years), -50, 50, -1);
        ClosedUntil x = Full.told();
        CHECKS.due("the first", x.review(11, 0, -50), 1);
        CHECKS.due("a second", x.review(11, LAST, 50), 2);
        CHECKS.due("the first of another", x.review(0, 0, 50), 1);
        CHECKS.due("50 longer", x.term(0, 0), d(1850, 1, 1));
        CHECKS.due("50 shorter", x.term(11, 11), d(1761, 1, 12));
    }

    /** "NONE: others, none such": nothing comes. */
    private static void reviewRefused() {
        int[][] refused = {{-1, 0, 0}, {5, 0, 0}, {12, 0, 0}, {MIN, 0, 0}, {MAX, 0, 0}, {0, -1, 0}, {0, LATE, 0},
            {0, MIN, 0}, {0, MAX, 0}, {0, 0, -51}, {0, 0, 51}, {0, 0, MIN}, {0, 0, MAX}};
        for (int[] r : refused) {
            String call = "review(" + r[0] + ", " + r[1] + ", " + r[2] + ")";
            dueAsBefore(call, x -> CHECKS.due(call, x.review(r[0], r[1], r[2]), -1));
        }
    }

    /** "NONE: .. it has 5". */
    private static void reviewsAtMost5() {
        Consumer<ClosedUntil> full = x -> {
            toldWithActs(x);
            for (int i = 3; i <= 5; i++) {
                CHECKS.due("review " + i, x.review(0, 10 - i, 1), i);
            }
        };
        Twins.dueAsBefore(CHECKS, "a sixth REVIEW", full, x -> {
            CHECKS.due("a sixth, ahead of all", x.review(0, 0, 1), -1);
            CHECKS.due("a sixth, behind all", x.review(0, LAST, 1), -1);
        });
        ClosedUntil x = new ClosedUntil();
        full.accept(x);
        CHECKS.due("closure(0, 3)", x.closure(0, 3), 5);
        CHECKS.due("another has room", x.review(1, 0, 1), 1);
        CHECKS.due("undo it", x.undo(), 9);
        CHECKS.due("undo the fifth", x.undo(), 8);
        CHECKS.due("room again", x.review(0, 0, 1), 5);
        CHECKS.due("a sixth", x.review(0, 0, 1), -1);
        ClosedUntil all = Full.told();
        for (int c = 0; c < 12; c++) {
            for (int i = 1; i <= 5; i++) {
                CHECKS.due("review of " + c, all.review(c, i, 1), i);
            }
            CHECKS.due("a sixth of " + c, all.review(c, 9, 1), -1);
        }
        CHECKS.due("count(4)", all.count(4), 60);
        CHECKS.due("the last with all", all.term(11, 11), d(1816, 1, 12));
    }

    // ---- promise 24

    /** "A CLOSURE is LIFTED on a DAY (0 to 219144; NONE: no more) ..; -2: others, none such". */
    private static void liftTakes() {
        CHECKS.dueRange("lift(c, 0)", c -> told().lift(c, 0), 0, 4, -2);
        CHECKS.dueRange("lift(c, -1)", c -> told().lift(c, -1), 0, 4, -2);
        CHECKS.dueRange("lift(c, 0) of all", c -> Full.told().lift(c, 0), 0, 11, -2);
        CHECKS.dueRange("lift(0, day)", day -> told().lift(0, day), -1, LAST, -2);
        CHECKS.due("lift(0, 0)", told().lift(0, 0), -1);
    }

    /** "on which it was (NONE)". */
    private static void liftAnswersWhatWas() {
        ClosedUntil x = told();
        CHECKS.due("was not, no more", x.lift(0, -1), -1);
        CHECKS.due("was not, on DAY 0", x.lift(0, 0), -1);
        CHECKS.due("count(5)", x.count(5), 1);
        CHECKS.due("on DAY 0, on the last", x.lift(0, LAST), 0);
        CHECKS.due("on the last, again", x.lift(0, LAST), LAST);
        CHECKS.due("on the last, no more", x.lift(0, -1), LAST);
        CHECKS.due("count(5)", x.count(5), 0);
        CHECKS.due("no more, on DAY 7", x.lift(0, 7), -1);
        CHECKS.due("of another", x.lift(1, 8), -1);
        CHECKS.due("closure(0, 4)", x.closure(0, 4), 7);
        CHECKS.due("closure(1, 4)", x.closure(1, 4), 8);
    }

    private static void liftRefused() {
        int[][] refused = {{-1, 0}, {5, 0}, {12, 0}, {MIN, 0}, {MAX, 0}, {-1, -1}, {5, -1}, {1, -2}, {1, LATE}, {1, MIN},
            {1, MAX}};
        for (int[] r : refused) {
            String call = "lift(" + r[0] + ", " + r[1] + ")";
            dueAsBefore(call, x -> CHECKS.due(call, x.lift(r[0], r[1]), -2));
        }
    }

    // ---- promise 25

    /** "The death of one of PEOPLE is told (NONE: no more) ..; -2: others, none such". */
    private static void diedTakes() {
        CHECKS.dueRange("died(p, last)", p -> told().died(p, LAST), 0, 1, -2);
        CHECKS.dueRange("died(p, -1)", p -> told().died(p, -1), 0, 1, -2);
        CHECKS.dueRange("died(p, 0) of all", p -> Full.told().died(p, 0), 0, 7, -2);
        CHECKS.dueRange("died(1, day)", day -> told().died(1, day), -1, LAST, -2);
        CHECKS.due("died(1, 0)", told().died(1, 0), -1);
    }

    /** "which was (NONE)": of the text, too. */
    private static void diedAnswersWhatWas() {
        ClosedUntil x = Checks.told("person p died 1700 1 1;person r;");
        CHECKS.due("of the text", x.died(0, 9), 0);
        CHECKS.due("of an ACT", x.died(0, LAST), 9);
        CHECKS.due("no more", x.died(0, -1), LAST);
        CHECKS.due("none was, no more", x.died(0, -1), -1);
        CHECKS.due("none was", x.died(0, 0), -1);
        CHECKS.due("on DAY 0, again", x.died(0, 0), 0);
        CHECKS.due("person(0, 1)", x.person(0, 1), 0);
        CHECKS.due("of another", x.person(1, 1), -1);
        CHECKS.due("count(6)", x.count(6), 6);
    }

    /** "-2: .. ahead of the birth": the day ahead of it, it, the day behind it. */
    private static void diedAheadOfTheBirth() {
        int birth = d(1900, 1, 1);
        CHECKS.due("the day ahead", told().died(0, birth - 1), -2);
        CHECKS.due("DAY 0", told().died(0, 0), -2);
        CHECKS.due("the birth", told().died(0, birth), -1);
        CHECKS.due("the day behind", told().died(0, birth + 1), -1);
        CHECKS.due("no more", told().died(0, -1), -1);
        CHECKS.due("no birth: DAY 0", told().died(1, 0), -1);
        ClosedUntil x = Checks.told("person p born 1700 1 1;person r born 2299 12 31;");
        CHECKS.due("born on DAY 0", x.died(0, 0), -1);
        CHECKS.due("born on the last DAY, the day ahead", x.died(1, LAST - 1), -2);
        CHECKS.due("born on the last DAY", x.died(1, LAST), -1);
        CHECKS.due("LATE", x.died(1, LATE), -2);
    }

    private static void diedRefused() {
        int[][] refused = {{-1, 0}, {2, 0}, {8, 0}, {MIN, 0}, {MAX, 0}, {-1, -1}, {2, -1}, {1, -2}, {1, LATE}, {1, MIN},
            {1, MAX}, {0, d(1899, 12, 31)}, {0, 0}};
        for (int[] r : refused) {
            String call = "died(" + r[0] + ", " + r[1] + ")";
            dueAsBefore(call, x -> CHECKS.due(call, x.died(r[0], r[1]), -2));
        }
    }

    // ---- promise 26

    /** "A PIECE gets another PARENT (NONE: none) ..; -2: others, none such". */
    private static void putTakes() {
        CHECKS.dueRange("put(p, -1)", p -> told().put(p, -1), 0, 3, -2);
        CHECKS.dueRange("put(p, -1) of all", p -> Full.told().put(p, -1), 0, 23, -2);
        CHECKS.dueRange("put(p, 12) of all", p -> Full.told().put(p, 12), 0, 23, -2);
        CHECKS.dueRange("put(3, parent)", q -> told().put(3, q), -1, 2, -2);
        CHECKS.dueRange("put(12, parent) of all", q -> Full.told().put(12, q), -1, 23, -2);
    }

    /** "which it had (NONE)". */
    private static void putAnswersWhatWas() {
        ClosedUntil x = told();
        CHECKS.due("none, none", x.put(3, -1), -1);
        CHECKS.due("none, 0", x.put(3, 0), -1);
        CHECKS.due("0, 0", x.put(3, 0), 0);
        CHECKS.due("0, 2", x.put(3, 2), 0);
        CHECKS.due("2, none", x.put(3, -1), 2);
        CHECKS.due("of the text", x.put(2, 3), 1);
        CHECKS.due("piece(2, 0)", x.piece(2, 0), 3);
        CHECKS.due("piece(0, 4)", x.piece(0, 4), 3);
        CHECKS.due("piece(3, 4)", x.piece(3, 4), 12);
        CHECKS.due("count(6)", x.count(6), 6);
    }

    /** "-2: .. one that is UNDER it": itself, one below, two below; and no ring by steps. */
    private static void putUnderItself() {
        for (int p = 0; p < 4; p++) {
            CHECKS.due("put(" + p + ", " + p + ")", told().put(p, p), -2);
        }
        CHECKS.due("one below", told().put(0, 1), -2);
        CHECKS.due("two below", told().put(0, 2), -2);
        CHECKS.due("one below", told().put(1, 2), -2);
        CHECKS.due("one above", told().put(2, 1), 1);
        CHECKS.due("two above", told().put(2, 0), 1);
        ClosedUntil x = told();
        CHECKS.due("put(3, 2)", x.put(3, 2), -1);
        CHECKS.due("three below", x.put(0, 3), -2);
        CHECKS.due("the chain is cut", x.put(1, -1), 0);
        CHECKS.due("not below now", x.put(0, 3), -1);
        CHECKS.due("below now", x.put(1, 0), -2);
        CHECKS.due("the deepest", x.piece(0, 5), 3);
        ClosedUntil y = Full.told();
        for (int p = 1; p < 24; p++) {
            CHECKS.due("a chain of all", y.put(p, p - 1), -1);
        }
        for (int p = 1; p < 24; p++) {
            CHECKS.due("no ring", y.put(0, p), -2);
        }
        CHECKS.due("how deep", y.piece(23, 5), 23);
    }

    private static void putRefused() {
        int[][] refused = {{-1, 0}, {4, 0}, {24, 0}, {MIN, 0}, {MAX, 0}, {-1, -1}, {4, -1}, {4, 4}, {3, -2}, {3, 4}, {3, 24},
            {3, MIN}, {3, MAX}, {0, 0}, {0, 1}, {0, 2}, {0, 3}, {1, 2}, {3, 3}};
        for (int[] r : refused) {
            String call = "put(" + r[0] + ", " + r[1] + ")";
            dueAsBefore(call, x -> CHECKS.due(call, x.put(r[0], r[1]), -2));
        }
    }

    // ---- promise 27

    /** "NONE: none can be". */
    private static void undoOfNone() {
        CHECKS.due("a new object", new ClosedUntil().undo(), -1);
        CHECKS.due("only told", told().undo(), -1);
        Twins.dueAsBefore(CHECKS, "undo of none", x -> {
            toldWithActs(x);
            x.keep(1, true);
        }, x -> CHECKS.due("gone back", x.undo(), -1));
        ClosedUntil x = told();
        x.lift(0, 1);
        CHECKS.due("one", x.undo(), 0);
        CHECKS.due("none", x.undo(), -1);
        CHECKS.due("none, again", x.undo(), -1);
    }

    /** "The latest ACT is UNDONE": each sort of them, back to what was there. */
    private static void undoOfEach() {
        dueUndone("a REVIEW", x -> x.review(0, 4, 9));
        dueUndone("a CLOSURE is LIFTED", x -> x.lift(0, 5));
        dueUndone("a CLOSURE is LIFTED on another DAY", x -> x.lift(1, 5));
        dueUndone("a CLOSURE is LIFTED no more", x -> x.lift(1, -1));
        dueUndone("a CLOSURE is LIFTED no more that was not", x -> x.lift(0, -1));
        dueUndone("a death", x -> x.died(0, LAST));
        dueUndone("another death", x -> x.died(1, 0));
        dueUndone("a death no more", x -> x.died(1, -1));
        dueUndone("no PARENT, where there was none", x -> x.put(0, -1));
        dueUndone("another PARENT", x -> x.put(3, 0));
        dueUndone("a PARENT no more", x -> x.put(3, -1));
        dueUndone("a PARENT of what others lie in", x -> x.put(1, -1));
    }

    /** Two acts, so that the second finds what the first left. */
    private static void dueUndone(String what, Consumer<ClosedUntil> act) {
        dueAsBefore("undone: " + what, x -> {
            act.accept(x);
            CHECKS.due("undo of " + what, x.undo(), 6);
        });
        dueAsBefore("undone twice: " + what, x -> {
            act.accept(x);
            act.accept(x);
            CHECKS.due("undo of " + what, x.undo(), 7);
            CHECKS.due("undo of " + what, x.undo(), 6);
        });
    }

    /** "how many can be still". */
    private static void undoAnswersHowMany() {
        for (int many = 1; many <= 14; many++) {
            ClosedUntil x = told();
            for (int i = 0; i < many; i++) {
                x.lift(0, i);
                CHECKS.due("count(6)", x.count(6), Math.min(12, i + 1));
            }
            for (int left = Math.min(12, many) - 1; left >= -1; left--) {
                CHECKS.due("undo", x.undo(), left);
                CHECKS.due("count(6)", x.count(6), Math.max(0, left));
            }
        }
    }

    /** "The last 12 can be UNDONE, one by one": the thirteenth ahead stays. */
    private static void undoOfTheLast12() {
        ClosedUntil x = told();
        for (int i = 0; i < 12; i++) {
            x.put(3, i % 3);
        }
        CHECKS.due("twelve", x.count(6), 12);
        for (int left = 11; left >= 0; left--) {
            CHECKS.due("undo", x.undo(), left);
            CHECKS.due("one by one", x.piece(3, 0), left == 0 ? -1 : (left - 1) % 3);
        }
        CHECKS.due("all are UNDONE", x.undo(), -1);
        x.review(4, 7, 9);
        for (int i = 0; i < 12; i++) {
            x.put(3, i % 3);
        }
        for (int left = 11; left >= 0; left--) {
            CHECKS.due("undo", x.undo(), left);
        }
        CHECKS.due("no more", x.undo(), -1);
        CHECKS.due("the first of thirteen stays", x.closure(4, 3), 1);
        CHECKS.due("the second is UNDONE", x.piece(3, 0), -1);
    }

    private static void undoneActsMakeRoom() {
        ClosedUntil x = told();
        for (int i = 0; i < 12; i++) {
            x.lift(0, i);
        }
        CHECKS.due("undo", x.undo(), 11);
        x.lift(1, 5);
        CHECKS.due("twelve again", x.count(6), 12);
        CHECKS.due("undo the new one", x.undo(), 11);
        CHECKS.due("closure(1, 4)", x.closure(1, 4), -1);
        CHECKS.due("closure(0, 4)", x.closure(0, 4), 10);
        for (int left = 10; left >= 0; left--) {
            CHECKS.due("undo", x.undo(), left);
        }
        CHECKS.due("the very first is UNDONE, too", x.closure(0, 4), -1);
    }

    /** A REVIEW is UNDONE wherever it lies among those of other DAYS and of its own. */
    private static void reviewsUndone() {
        int[] days = {1, 5, 9};
        for (int day : days) {
            dueUndone("a REVIEW on " + day, x -> x.review(0, day, 3));
        }
        int day = d(1948, 1, 1);
        ClosedUntil x = told();
        x.review(4, day, 20);
        x.review(4, day, -10);
        CHECKS.due("both", x.term(4, 2), d(1960, 1, 1));
        x.undo();
        CHECKS.due("the later of one DAY is UNDONE", x.term(4, 2), d(1970, 1, 1));
        x.review(4, day, -15);
        x.review(4, day - 1, 1);
        CHECKS.due("three", x.term(4, 2), d(1956, 1, 1));
        x.undo();
        CHECKS.due("the first by DAYS is UNDONE", x.term(4, 2), d(1955, 1, 1));
        x.undo();
        CHECKS.due("the first stays", x.term(4, 2), d(1970, 1, 1));
        CHECKS.due("closure(4, 3)", x.closure(4, 3), 1);
        ClosedUntil y = told();
        y.review(4, d(1950, 1, 1), 9);
        y.review(4, d(1951, 1, 1), 9);
        y.review(4, d(1940, 1, 1), 0);
        y.undo();
        CHECKS.due("those behind it keep their DAYS", y.term(4, 2), d(1950, 1, 1));
        y.lift(4, 0);
        y.undo();
        y.review(4, d(1949, 12, 31), 0);
        CHECKS.due("those behind it keep their DAYS", y.term(4, 2), d(1950, 1, 1));
    }

    private static void refusedActsCannotBeUndone() {
        ClosedUntil x = told();
        x.review(0, 0, 51);
        x.lift(0, LATE);
        x.died(0, 0);
        x.put(0, 0);
        x.keep(0, false);
        x.keep(2, false);
        CHECKS.due("count(6)", x.count(6), 0);
        CHECKS.due("undo()", x.undo(), -1);
    }

    // ---- promise 28

    /** "KEEPS 0 and 1"; "false: none such". */
    private static void keepTakes() {
        int[] others = {-1, 2, -2, 3, MIN, MAX};
        for (int k : others) {
            dueAsBefore("keep(" + k + ", false)", x -> CHECKS.due("keep(" + k + ", false)", x.keep(k, false), false));
            dueAsBefore("keep(" + k + ", true)", x -> CHECKS.due("keep(" + k + ", true)", x.keep(k, true), false));
        }
        for (int k = 0; k < 2; k++) {
            ClosedUntil x = told();
            CHECKS.due("laid", x.keep(k, false), true);
            CHECKS.due("gone back to", x.keep(k, true), true);
            CHECKS.due("the other has nothing", x.keep(1 - k, true), false);
        }
    }

    /** "false: .. nothing is in it (back)": and all stays, with what can be UNDONE. */
    private static void keepOfNothing() {
        for (int k = 0; k < 2; k++) {
            int nothing = k;
            Twins.dueAsBefore(CHECKS, "back to nothing in " + k, x -> {
                Checks.tell(x, HOLDINGS);
                x.review(0, 5, 1);
                x.keep(1 - nothing, false);
                x.put(3, 1);
            }, x -> CHECKS.due("keep(" + nothing + ", true)", x.keep(nothing, true), false));
        }
    }

    /** "KEEPS .. hold all that ACTS change". */
    private static void keepHoldsAll() {
        for (int k = 0; k < 2; k++) {
            ClosedUntil x = new ClosedUntil();
            toldWithActs(x);
            x.keep(k, false);
            x.review(0, 3, 5);
            x.review(1, 3, 5);
            x.undo();
            x.lift(1, -1);
            x.lift(2, 0);
            x.died(0, LAST);
            x.died(1, -1);
            x.put(3, -1);
            x.put(1, 3);
            CHECKS.due("gone back to", x.keep(k, true), true);
            CHECKS.due("nothing can be UNDONE", x.count(6), 0);
            CHECKS.due("nothing can be UNDONE", x.undo(), -1);
            ClosedUntil twin = new ClosedUntil();
            toldWithActs(twin);
            twin.keep(k, false);
            twin.keep(k, true);
            Twins.dueSame(CHECKS, "all is as when it was laid", x, twin);
            CHECKS.due("ACTS go on", x.review(0, 3, 5), 3);
            CHECKS.due("and can be UNDONE", x.undo(), 0);
        }
    }

    /** A KEEP that is gone back to is in it still; one that is laid anew takes the other's place. */
    private static void keepTwice() {
        ClosedUntil x = told();
        x.lift(0, 5);
        x.keep(0, false);
        for (int i = 0; i < 3; i++) {
            x.lift(0, 6 + i);
            x.review(0, 0, 1);
            CHECKS.due("gone back to", x.keep(0, true), true);
            CHECKS.due("closure(0, 4)", x.closure(0, 4), 5);
            CHECKS.due("closure(0, 3)", x.closure(0, 3), 0);
        }
        x.lift(0, 9);
        CHECKS.due("laid anew", x.keep(0, false), true);
        x.lift(0, -1);
        CHECKS.due("gone back to", x.keep(0, true), true);
        CHECKS.due("closure(0, 4)", x.closure(0, 4), 9);
    }

    /** REVIEWS are KEPT with their DAYS and YEARS. */
    private static void keepHoldsReviews() {
        for (int k = 0; k < 2; k++) {
            ClosedUntil x = told();
            x.review(4, d(1950, 1, 1), 9);
            x.review(4, d(1949, 12, 31), 3);
            CHECKS.due("term", x.term(4, 2), d(1962, 1, 1));
            x.undo();
            CHECKS.due("term", x.term(4, 2), d(1950, 1, 1));
            x.keep(k, false);
            x.undo();
            x.review(4, d(1940, 1, 1), 7);
            x.review(4, d(1941, 1, 1), 7);
            CHECKS.due("gone back to", x.keep(k, true), true);
            CHECKS.due("a REVIEW on TERM", x.term(4, 2), d(1950, 1, 1));
            x.review(4, d(1949, 12, 31), 3);
            CHECKS.due("a REVIEW ahead of it", x.term(4, 2), d(1962, 1, 1));
        }
    }

    private static void keepsAreApart() {
        ClosedUntil x = told();
        x.keep(0, false);
        x.review(0, 5, 1);
        x.keep(1, false);
        x.review(0, 5, 1);
        CHECKS.due("back to 1", x.keep(1, true), true);
        CHECKS.due("closure(0, 3)", x.closure(0, 3), 1);
        CHECKS.due("back to 0", x.keep(0, true), true);
        CHECKS.due("closure(0, 3)", x.closure(0, 3), 0);
        x.keep(1, false);
        x.put(3, 0);
        CHECKS.due("back to 1", x.keep(1, true), true);
        CHECKS.due("piece(3, 0)", x.piece(3, 0), -1);
    }

    /** Laying is no ACT, and what is UNDONE leaves the KEEP as it is. */
    private static void keepAndUndo() {
        ClosedUntil x = told();
        x.lift(0, 5);
        CHECKS.due("laid", x.keep(0, false), true);
        CHECKS.due("count(6)", x.count(6), 1);
        CHECKS.due("undo()", x.undo(), 0);
        CHECKS.due("closure(0, 4)", x.closure(0, 4), -1);
        CHECKS.due("gone back to", x.keep(0, true), true);
        CHECKS.due("closure(0, 4)", x.closure(0, 4), 5);
        CHECKS.due("count(6)", x.count(6), 0);
    }

    private static void keepBackRefused() {
        ClosedUntil x = told();
        x.lift(0, 5);
        CHECKS.due("back to nothing", x.keep(0, true), false);
        CHECKS.due("it can be UNDONE still", x.undo(), 0);
    }

    private static void keepsAndTheTape() {
        ClosedUntil x = told();
        Checks.feedBytes(x, new byte[20]);
        x.keep(0, false);
        Checks.feedBytes(x, new byte[20]);
        x.keep(0, true);
        CHECKS.due("the tape is not KEPT", x.count(7), 40);
    }

    // ---- promise 3 again: what a text does to acts

    /** "no REVIEWS, nothing LIFTED, nothing can be UNDONE, nothing is KEPT". */
    private static void textForgetsActs() {
        ClosedUntil x = new ClosedUntil();
        toldWithActs(x);
        x.text(0);
        CHECKS.due("the same text again", Checks.tell(x, HOLDINGS), 12);
        Twins.dueSame(CHECKS, "as told for the first time", x, told());
        CHECKS.due("nothing can be UNDONE", x.undo(), -1);
        CHECKS.due("nothing is KEPT in 0", x.keep(0, true), false);
        CHECKS.due("nothing is KEPT in 1", x.keep(1, true), false);
    }

    /** "-2 less ..: a FAULT (all else stays)": all but the tape, which is empty then. */
    private static void faultForgetsNothing() {
        String[] faulty = {"$", "person a;person a;", "piece x in y 1900 1 1;", "deposit x 1699 1 1;",
            "person a;person b;person c;person e;person f;person g;person h;person i;person j;",
            "piece x 1900 1 1;piece y 1900 1 1;close content x 9;close"};
        int[] wants = {Checks.fault(0, 1), Checks.fault(16, 2), Checks.fault(11, 3), Checks.fault(10, 4),
            Checks.fault(72, 5), Checks.fault(57, 1)};
        for (int i = 0; i < faulty.length; i++) {
            String text = faulty[i];
            int want = wants[i];
            Twins.dueAsBefore(CHECKS, "a FAULT", ActsEdgeTest::actsOn,
                x -> CHECKS.due("text \"" + text + "\"", Checks.tell(x, text), want));
            Twins.dueAsBefore(CHECKS, "FAULTS in a row", ActsEdgeTest::actsOn, x -> {
                Checks.tell(x, text);
                Checks.tell(x, text);
            });
            Twins.dueAsBefore(CHECKS, "a FAULT behind two texts", x -> {
                Checks.tell(x, "piece z 1900 1 1;close content z 1;");
                actsOn(x);
            }, x -> Checks.tell(x, text));
        }
    }

    // ---- promise 29

    /** "NONE for another what". */
    private static void countTakes() {
        CHECKS.dueRange("count(what)", what -> told().count(what), 0, 7, -1);
        CHECKS.dueRange("count(what) of a new object", what -> new ClosedUntil().count(what), 0, 7, -1);
    }

    /** As many of each as there may be. */
    private static void countAtTheEnds() {
        ClosedUntil x = Full.told();
        int[] wants = {24, 8, 4, 12, 0, 0, 0, 0};
        for (int what = 0; what < wants.length; what++) {
            CHECKS.due("count(" + what + ")", x.count(what), wants[what]);
        }
        for (int c = 0; c < 12; c++) {
            x.lift(c, c);
            CHECKS.due("count(5), LIFTED", x.count(5), (2 << c) - 1);
        }
        for (int c = 0; c < 12; c++) {
            x.lift(c, -1);
            CHECKS.due("count(5), no more", x.count(5), 4095 - ((2 << c) - 1));
        }
        CHECKS.due("count(6)", x.count(6), 12);
    }

    private static void countOfTheTape() {
        ClosedUntil x = told();
        CHECKS.due("taken", x.count(7), 0);
        Checks.feedBytes(x, new byte[1000]);
        CHECKS.due("full", x.count(7), 1000);
        CHECKS.due("refused", x.text(1001), -1);
        CHECKS.due("full still", x.count(7), 1000);
        CHECKS.due("a fault", x.text(1), Checks.fault(0, 1));
        CHECKS.due("taken", x.count(7), 0);
    }
}

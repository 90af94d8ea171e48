import java.util.NoSuchElementException;

/** Holdings under closures: when each piece opens, for whom, and which closures keep it closed. */
public final class ClosedUntil {
    public static final int NONE = -1;
    public static final int LATE = 219145;

    /** Answered where NONE is an answer already. */
    private static final int WRONG = -2;

    private static final int MOST_BYTES = 1000;
    private static final int MOST_PEOPLE = 8;
    private static final int MOST_DEPOSITS = 4;
    private static final int MOST_PIECES = 24;
    private static final int MOST_CLOSURES = 12;
    private static final int MOST_PEOPLE_OF_PIECE = 4;
    private static final int MOST_REVIEWS = 5;
    private static final int MOST_UNDONE = 12;
    private static final int MOST_YEARS = 200;
    private static final int YEARS_OF_CLOSURE = 3;
    private static final int ALL_READERS = 15;
    private static final int KEEPS = 2;

    private static final int BY_CONTENT = 0;
    private static final int BY_PERSON = 1;
    private static final int BY_DEPOSIT = 2;
    private static final int BY_UNTIL = 3;

    private final Tape tape;
    private final TextReader reader;
    private final Timetable timetable;
    private final Journal journal;
    private final State[] kept;
    private final boolean[] isKept;
    private Holdings told;
    private Holdings spareTold;
    private State now;
    private State spareNow;
    private boolean stale;

    public ClosedUntil() {
        tape = new Tape();
        reader = new TextReader();
        timetable = new Timetable();
        journal = new Journal();
        kept = new State[KEEPS];
        for (int k = 0; k < KEEPS; k++) {
            kept[k] = new State();
        }
        isKept = new boolean[KEEPS];
        told = new Holdings();
        spareTold = new Holdings();
        now = new State();
        spareNow = new State();
        stale = true;
    }

    // ---- the tape and its text

    public int feed(int a, int b, int c, int d, int e) {
        if (!tape.hasRoom()) {
            return NONE;
        }
        tape.append(a);
        tape.append(b);
        tape.append(c);
        tape.append(d);
        tape.append(e);
        return tape.length;
    }

    public int text(int n) {
        if (n < 0 || n > tape.length) {
            return NONE;
        }
        int answer = reader.read(tape.bytes, n, spareTold, spareNow);
        tape.length = 0;
        if (answer >= 0) {
            takeWhatWasRead();
        }
        return answer;
    }

    private void takeWhatWasRead() {
        Holdings oldTold = told;
        told = spareTold;
        spareTold = oldTold;
        State oldNow = now;
        now = spareNow;
        spareNow = oldNow;
        journal.forgetAll();
        for (int k = 0; k < KEEPS; k++) {
            isKept[k] = false;
        }
        stale = true;
    }

    // ---- the calendar

    public int day(int year, int month, int day) {
        return Calendar.numberOf(year, month, day);
    }

    public int date(int day, int what) {
        if (!Calendar.has(day)) {
            return NONE;
        }
        switch (what) {
            case 0:
                return Calendar.yearOf(day);
            case 1:
                return Calendar.monthOf(day);
            case 2:
                return Calendar.dayOfMonth(day);
            case 3:
                return Calendar.dayOfWeek(day);
            default:
                return NONE;
        }
    }

    public int plus(int day, int years) {
        if (!isDayOrLate(day) || years < -600 || years > 600) {
            return NONE;
        }
        return Calendar.yearsOn(day, years);
    }

    // ---- what is told

    public int piece(int piece, int what) {
        if (!told.hasPiece(piece)) {
            return WRONG;
        }
        switch (what) {
            case 0:
                return now.parent[piece];
            case 1:
                return told.lastDay[piece];
            case 2:
                return told.peopleOf[piece];
            case 3:
                return told.depositOf[piece];
            case 4:
                return upToDate().below[piece];
            case 5:
                return upToDate().depth[piece];
            default:
                return WRONG;
        }
    }

    public int person(int person, int what) {
        if (!told.hasPerson(person)) {
            return WRONG;
        }
        switch (what) {
            case 0:
                return told.birth[person];
            case 1:
                return now.death[person];
            case 2:
                return told.piecesOf(person);
            default:
                return WRONG;
        }
    }

    public int closure(int closure, int what) {
        if (!told.hasClosure(closure)) {
            return WRONG;
        }
        switch (what) {
            case 0:
                return told.sort[closure];
            case 1:
                return told.subject[closure];
            case 2:
                return told.whole[closure] ? 1 : 0;
            case 3:
                return now.reviews[closure];
            case 4:
                return now.lifted[closure];
            case 5:
                return upToDate().targetsOf(closure);
            case 6:
                return upToDate().closedUnder(closure);
            default:
                return WRONG;
        }
    }

    // ---- when it opens

    public int term(int closure, int piece) {
        if (!told.hasClosure(closure) || !told.hasPiece(piece)) {
            return NONE;
        }
        return upToDate().terms[closure][piece];
    }

    public int ends(int closure, int piece) {
        if (!told.hasClosure(closure) || !told.hasPiece(piece)) {
            return NONE;
        }
        return upToDate().ends[closure][piece];
    }

    public int opens(int piece, int readers) {
        if (!told.hasPiece(piece) || !areReaders(readers)) {
            return NONE;
        }
        return upToDate().openingOf(piece, told.holdingFor(readers));
    }

    public int allOf(int piece, int readers) {
        if (!told.hasPiece(piece) || !areReaders(readers)) {
            return NONE;
        }
        Timetable table = upToDate();
        int holding = told.holdingFor(readers);
        int latest = 0;
        for (int p = 0; p < told.pieces; p++) {
            if (hasBit(table.below[piece], p)) {
                latest = Math.max(latest, table.openingOf(p, holding));
            }
        }
        return latest;
    }

    public int reason(int piece, int readers) {
        if (!told.hasPiece(piece) || !areReaders(readers)) {
            return NONE;
        }
        Timetable table = upToDate();
        int holding = told.holdingFor(readers);
        int opening = table.openingOf(piece, holding);
        if (opening == 0) {
            return NONE;
        }
        for (int c = 0; c < told.closures; c++) {
            if (hasBit(holding, c) && table.ends[c][piece] == opening) {
                return c;
            }
        }
        return NONE;
    }

    public int closedBy(int piece, int day) {
        if (!told.hasPiece(piece) || !isDayOrLate(day)) {
            return NONE;
        }
        return upToDate().closersOf(piece, day, told.holdingFor(0));
    }

    public int sooner(int closure, int piece, int readers) throws NoSuchElementException {
        if (!told.hasClosure(closure) || !told.hasPiece(piece) || !areReaders(readers)) {
            throw new NoSuchElementException("no such closure, piece or readers");
        }
        Timetable table = upToDate();
        int holding = told.holdingFor(readers);
        int without = holding & ~(1 << closure);
        return table.openingOf(piece, holding) - table.openingOf(piece, without);
    }

    public int open(int day, int readers) {
        if (!isDayOrLate(day) || !areReaders(readers)) {
            return NONE;
        }
        return upToDate().openOn(day, told.holdingFor(readers));
    }

    public int next(int day, int readers) {
        boolean known = day == NONE || isDayOrLate(day);
        if (!known || !areReaders(readers)) {
            return NONE;
        }
        Timetable table = upToDate();
        int holding = told.holdingFor(readers);
        int first = NONE;
        for (int p = 0; p < told.pieces; p++) {
            int opening = table.openingOf(p, holding);
            if (opening > day && (first == NONE || opening < first)) {
                first = opening;
            }
        }
        return first;
    }

    public int listed(int k, int readers) {
        if (!told.hasPiece(k) || !areReaders(readers)) {
            return NONE;
        }
        return upToDate().pieceAt(k, told.holdingFor(readers));
    }

    // ---- what to lift

    public int mustGo(int piece, int day, int readers) {
        if (!told.hasPiece(piece) || !isDayOrLate(day) || !areReaders(readers)) {
            return NONE;
        }
        Timetable table = upToDate();
        int holding = told.holdingFor(readers);
        int must = 0;
        for (int p = 0; p < told.pieces; p++) {
            if (hasBit(table.below[piece], p)) {
                must |= table.closersOf(p, day, holding);
            }
        }
        return must;
    }

    public int best(int day, int readers, int n) {
        if (!isDayOrLate(day) || !areReaders(readers) || n < 0 || n > 3) {
            return NONE;
        }
        return upToDate().bestToLift(day, told.holdingFor(readers), n);
    }

    public int openWithout(int day, int readers, int closures) {
        boolean known = closures >= 0 && closures < 1 << told.closures;
        if (!known || !isDayOrLate(day) || !areReaders(readers)) {
            return NONE;
        }
        return Integer.bitCount(upToDate().openOn(day, told.holdingFor(readers) & ~closures));
    }

    // ---- acts

    public int review(int closure, int day, int years) {
        if (!told.hasClosure(closure) || !Calendar.has(day) || years < -50 || years > 50) {
            return NONE;
        }
        if (now.reviews[closure] >= MOST_REVIEWS) {
            return NONE;
        }
        int slot = now.addReview(closure, day, years);
        remember(Journal.REVIEWED, closure, slot);
        return now.reviews[closure];
    }

    public int lift(int closure, int day) {
        boolean known = day == NONE || Calendar.has(day);
        if (!known || !told.hasClosure(closure)) {
            return WRONG;
        }
        int was = now.lifted[closure];
        now.lifted[closure] = day;
        remember(Journal.LIFTED, closure, was);
        return was;
    }

    public int died(int person, int day) {
        boolean known = day == NONE || Calendar.has(day);
        if (!known || !told.hasPerson(person)) {
            return WRONG;
        }
        if (day != NONE && day < told.birth[person]) {
            return WRONG;
        }
        int was = now.death[person];
        now.death[person] = day;
        remember(Journal.DEATH_TOLD, person, was);
        return was;
    }

    public int put(int piece, int parent) {
        boolean known = parent == NONE || told.hasPiece(parent);
        if (!known || !told.hasPiece(piece)) {
            return WRONG;
        }
        if (parent != NONE && hasBit(upToDate().below[piece], parent)) {
            return WRONG;
        }
        int was = now.parent[piece];
        now.parent[piece] = parent;
        remember(Journal.PUT, piece, was);
        return was;
    }

    public int undo() {
        if (journal.size == 0) {
            return NONE;
        }
        journal.takeBackLatest(now);
        stale = true;
        return journal.size;
    }

    public boolean keep(int k, boolean back) {
        if (k < 0 || k >= KEEPS) {
            return false;
        }
        if (!back) {
            kept[k].copyFrom(now);
            isKept[k] = true;
            return true;
        }
        if (!isKept[k]) {
            return false;
        }
        now.copyFrom(kept[k]);
        journal.forgetAll();
        stale = true;
        return true;
    }

    public int count(int what) {
        switch (what) {
            case 0:
                return told.pieces;
            case 1:
                return told.people;
            case 2:
                return told.deposits;
            case 3:
                return told.closures;
            case 4:
                return now.allReviews();
            case 5:
                return now.allLifted();
            case 6:
                return journal.size;
            case 7:
                return tape.length;
            default:
                return NONE;
        }
    }

    private void remember(int act, int whose, int was) {
        journal.add(act, whose, was);
        stale = true;
    }

    /** Filled only when asked, so that acts in a row cost nothing. */
    private Timetable upToDate() {
        if (stale) {
            timetable.fill(told, now);
            stale = false;
        }
        return timetable;
    }

    private static boolean isDayOrLate(int day) {
        return day >= 0 && day <= LATE;
    }

    private static boolean areReaders(int readers) {
        return readers >= 0 && readers <= ALL_READERS;
    }

    private static boolean hasBit(int bits, int place) {
        return place >= 0 && (bits >>> place & 1) == 1;
    }

    /** Days by number, from the first of January 1700. */
    private static final class Calendar {
        private static final int FIRST_YEAR = 1700;
        private static final int LAST_YEAR = 2299;
        private static final int FEBRUARY = 2;
        private static final int[] MONTH_LENGTHS = {31, 28, 31, 30, 31, 30, 31, 31, 30, 31, 30, 31};
        /** Leap days from the year 1 to 1699, by the rule of 400 years. */
        private static final int LEAP_DAYS_BEFORE = 412;
        /** The first of January 1700 was a Friday. */
        private static final int FIRST_WEEKDAY = 4;
        /** Months are told with their day in one number, as both come of one search. */
        private static final int MONTH_STEP = 32;

        private static boolean has(int day) {
            return day >= 0 && day < LATE;
        }

        /** 0 for a month that there is not, so that no day is in it. */
        private static int monthLength(int year, int month) {
            if (month < 1 || month > MONTH_LENGTHS.length) {
                return 0;
            }
            boolean leap = year % 4 == 0 && (year % 100 != 0 || year % 400 == 0);
            int length = MONTH_LENGTHS[month - 1];
            return month == FEBRUARY && leap ? length + 1 : length;
        }

        private static int startOf(int year) {
            int past = year - 1;
            int leapDays = past / 4 - past / 100 + past / 400 - LEAP_DAYS_BEFORE;
            return 365 * (year - FIRST_YEAR) + leapDays;
        }

        private static int numberOf(int year, int month, int dayOfMonth) {
            if (year < FIRST_YEAR || year > LAST_YEAR) {
                return NONE;
            }
            if (dayOfMonth < 1 || dayOfMonth > monthLength(year, month)) {
                return NONE;
            }
            int day = startOf(year);
            for (int m = 1; m < month; m++) {
                day += monthLength(year, m);
            }
            return day + dayOfMonth - 1;
        }

        private static int yearOf(int day) {
            // Years of 366 days are too long by 455 days in all 600, so two steps on are enough.
            int year = FIRST_YEAR + day / 366;
            for (int step = 0; step < 2 && startOf(year + 1) <= day; step++) {
                year++;
            }
            return year;
        }

        private static int monthAndDay(int day, int year) {
            int left = day - startOf(year);
            int month = 1;
            while (month < MONTH_LENGTHS.length && left >= monthLength(year, month)) {
                left -= monthLength(year, month);
                month++;
            }
            return month * MONTH_STEP + left + 1;
        }

        private static int monthOf(int day) {
            return monthAndDay(day, yearOf(day)) / MONTH_STEP;
        }

        private static int dayOfMonth(int day) {
            return monthAndDay(day, yearOf(day)) % MONTH_STEP;
        }

        private static int dayOfWeek(int day) {
            return (day + FIRST_WEEKDAY) % 7;
        }

        private static int yearsOn(int day, int years) {
            if (day >= LATE) {
                return LATE;
            }
            int yearBefore = yearOf(day);
            int year = yearBefore + years;
            if (year < FIRST_YEAR) {
                return 0;
            }
            if (year > LAST_YEAR) {
                return LATE;
            }
            int monthAndDay = monthAndDay(day, yearBefore);
            int month = monthAndDay / MONTH_STEP;
            int dayOfMonth = Math.min(monthAndDay % MONTH_STEP, monthLength(year, month));
            return numberOf(year, month, dayOfMonth);
        }

        /** The start of 2300 is LATE by its number, too. */
        private static int newYearBehind(int day) {
            return day >= LATE ? LATE : startOf(yearOf(day) + 1);
        }
    }

    /** The bytes that have come and are no text yet. */
    private static final class Tape {
        private static final int BYTES_FED = 20;

        private final byte[] bytes = new byte[MOST_BYTES];
        private int length;

        private boolean hasRoom() {
            return length + BYTES_FED <= bytes.length;
        }

        private void append(int number) {
            for (int shift = 24; shift >= 0 && length < bytes.length; shift -= 8) {
                bytes[length] = (byte) (number >>> shift);
                length++;
            }
        }
    }

    /** What a text tells and no act changes. */
    private static final class Holdings {
        private int people;
        private final int[] birth = new int[MOST_PEOPLE];
        private int deposits;
        private final int[] depositDay = new int[MOST_DEPOSITS];
        private int pieces;
        private final int[] lastDay = new int[MOST_PIECES];
        private final int[] peopleOf = new int[MOST_PIECES];
        private final int[] depositOf = new int[MOST_PIECES];
        private int closures;
        private final int[] sort = new int[MOST_CLOSURES];
        private final int[] subject = new int[MOST_CLOSURES];
        private final boolean[] whole = new boolean[MOST_CLOSURES];
        private final int[][] years = new int[MOST_CLOSURES][YEARS_OF_CLOSURE];
        private final int[] untilDay = new int[MOST_CLOSURES];

        private void clear() {
            people = 0;
            deposits = 0;
            pieces = 0;
            closures = 0;
        }

        private boolean hasPerson(int person) {
            return person >= 0 && person < people;
        }

        private boolean hasPiece(int piece) {
            return piece >= 0 && piece < pieces;
        }

        private boolean hasClosure(int closure) {
            return closure >= 0 && closure < closures;
        }

        private int piecesOf(int person) {
            int bits = 0;
            for (int p = 0; p < pieces; p++) {
                if (hasBit(peopleOf[p], person)) {
                    bits |= 1 << p;
                }
            }
            return bits;
        }

        private boolean isTarget(int closure, int piece) {
            int whose = subject[closure];
            switch (sort[closure]) {
                case BY_PERSON:
                    return hasBit(peopleOf[piece], whose);
                case BY_DEPOSIT:
                    return depositOf[piece] == whose;
                default:
                    return piece == whose;
            }
        }

        /** The closures, as bits, that hold for such readers. */
        private int holdingFor(int readers) {
            int bits = 0;
            for (int c = 0; c < closures; c++) {
                if (!hasBit(readers, sort[c])) {
                    bits |= 1 << c;
                }
            }
            return bits;
        }
    }

    /** All that acts change. */
    private static final class State {
        private final int[] parent = new int[MOST_PIECES];
        private final int[] death = new int[MOST_PEOPLE];
        private final int[] lifted = new int[MOST_CLOSURES];
        private final int[] reviews = new int[MOST_CLOSURES];
        private final int[][] reviewDay = new int[MOST_CLOSURES][MOST_REVIEWS];
        private final int[][] reviewYears = new int[MOST_CLOSURES][MOST_REVIEWS];

        private State() {
            clear();
        }

        private void clear() {
            for (int p = 0; p < MOST_PIECES; p++) {
                parent[p] = NONE;
            }
            for (int p = 0; p < MOST_PEOPLE; p++) {
                death[p] = NONE;
            }
            for (int c = 0; c < MOST_CLOSURES; c++) {
                lifted[c] = NONE;
                reviews[c] = 0;
            }
        }

        private void copyFrom(State other) {
            System.arraycopy(other.parent, 0, parent, 0, MOST_PIECES);
            System.arraycopy(other.death, 0, death, 0, MOST_PEOPLE);
            System.arraycopy(other.lifted, 0, lifted, 0, MOST_CLOSURES);
            System.arraycopy(other.reviews, 0, reviews, 0, MOST_CLOSURES);
            for (int c = 0; c < MOST_CLOSURES; c++) {
                System.arraycopy(other.reviewDay[c], 0, reviewDay[c], 0, MOST_REVIEWS);
                System.arraycopy(other.reviewYears[c], 0, reviewYears[c], 0, MOST_REVIEWS);
            }
        }

        /** Reviews lie by their days, so that a term takes them as they lie; answers the new one's slot. */
        private int addReview(int closure, int day, int years) {
            int[] days = reviewDay[closure];
            int[] yearsOf = reviewYears[closure];
            int slot = reviews[closure];
            while (slot > 0 && days[slot - 1] > day) {
                days[slot] = days[slot - 1];
                yearsOf[slot] = yearsOf[slot - 1];
                slot--;
            }
            days[slot] = day;
            yearsOf[slot] = years;
            reviews[closure]++;
            return slot;
        }

        private void dropReview(int closure, int slot) {
            int[] days = reviewDay[closure];
            int[] yearsOf = reviewYears[closure];
            for (int r = slot; r + 1 < reviews[closure]; r++) {
                days[r] = days[r + 1];
                yearsOf[r] = yearsOf[r + 1];
            }
            reviews[closure]--;
        }

        private int allReviews() {
            int sum = 0;
            for (int c = 0; c < MOST_CLOSURES; c++) {
                sum += reviews[c];
            }
            return sum;
        }

        private int allLifted() {
            int bits = 0;
            for (int c = 0; c < MOST_CLOSURES; c++) {
                if (lifted[c] != NONE) {
                    bits |= 1 << c;
                }
            }
            return bits;
        }
    }

    /** The latest acts, each with what it takes to undo it. */
    private static final class Journal {
        private static final int REVIEWED = 0;
        private static final int LIFTED = 1;
        private static final int DEATH_TOLD = 2;
        private static final int PUT = 3;

        private final int[] acts = new int[MOST_UNDONE];
        private final int[] whose = new int[MOST_UNDONE];
        private final int[] before = new int[MOST_UNDONE];
        private int size;

        private void forgetAll() {
            size = 0;
        }

        private void add(int act, int who, int was) {
            if (size == MOST_UNDONE) {
                forgetOldest();
            }
            acts[size] = act;
            whose[size] = who;
            before[size] = was;
            size++;
        }

        private void forgetOldest() {
            size--;
            System.arraycopy(acts, 1, acts, 0, size);
            System.arraycopy(whose, 1, whose, 0, size);
            System.arraycopy(before, 1, before, 0, size);
        }

        private void takeBackLatest(State state) {
            if (size == 0) {
                return;
            }
            size--;
            int who = whose[size];
            int was = before[size];
            switch (acts[size]) {
                case REVIEWED:
                    state.dropReview(who, was);
                    break;
                case LIFTED:
                    state.lifted[who] = was;
                    break;
                case DEATH_TOLD:
                    state.death[who] = was;
                    break;
                default:
                    state.parent[who] = was;
                    break;
            }
        }
    }

    /** What follows from the holdings and their state: terms, ends, and how the pieces lie. */
    private static final class Timetable {
        /** Three of twelve closures can be chosen in so many ways. */
        private static final int MOST_CHOICES = 220;

        private final int[] below = new int[MOST_PIECES];
        private final int[] depth = new int[MOST_PIECES];
        private final int[][] terms = new int[MOST_CLOSURES][MOST_PIECES];
        private final int[][] ends = new int[MOST_CLOSURES][MOST_PIECES];
        private final int[] closers = new int[MOST_PIECES];
        private final int[] openings = new int[MOST_PIECES];
        private int pieces;
        private int closures;

        private void fill(Holdings told, State now) {
            pieces = told.pieces;
            closures = told.closures;
            layPieces(now);
            for (int c = 0; c < closures; c++) {
                for (int p = 0; p < pieces; p++) {
                    terms[c][p] = told.isTarget(c, p) ? termOf(c, p, told, now) : NONE;
                }
                for (int p = 0; p < pieces; p++) {
                    ends[c][p] = latestAbove(p, terms[c], now);
                }
            }
        }

        private void layPieces(State now) {
            for (int p = 0; p < pieces; p++) {
                below[p] = 0;
            }
            for (int p = 0; p < pieces; p++) {
                int above = p;
                int steps = 0;
                while (above >= 0 && above < pieces && steps < pieces) {
                    below[above] |= 1 << p;
                    above = now.parent[above];
                    steps++;
                }
                depth[p] = steps - 1;
            }
        }

        private static int latestAbove(int piece, int[] termsOfOne, State now) {
            int latest = NONE;
            int above = piece;
            for (int step = 0; step < MOST_PIECES && above >= 0 && above < termsOfOne.length; step++) {
                latest = Math.max(latest, termsOfOne[above]);
                above = now.parent[above];
            }
            return latest;
        }

        private static int termOf(int closure, int target, Holdings told, State now) {
            int day = toldTerm(closure, target, told, now);
            if (told.whole[closure]) {
                day = Calendar.newYearBehind(day);
            }
            day = reviewedTerm(day, closure, now);
            int lifted = now.lifted[closure];
            return lifted == NONE ? day : Math.min(day, lifted);
        }

        private static int toldTerm(int closure, int target, Holdings told, State now) {
            int whose = told.subject[closure];
            int[] years = told.years[closure];
            switch (told.sort[closure]) {
                case BY_CONTENT:
                    return Calendar.yearsOn(told.lastDay[target], years[0]);
                case BY_PERSON:
                    if (now.death[whose] != NONE) {
                        return Calendar.yearsOn(now.death[whose], years[0]);
                    }
                    if (told.birth[whose] != NONE) {
                        return Calendar.yearsOn(told.birth[whose], years[1]);
                    }
                    return Calendar.yearsOn(told.lastDay[target], years[2]);
                case BY_DEPOSIT:
                    return Calendar.yearsOn(told.depositDay[whose], years[0]);
                default:
                    return told.untilDay[closure];
            }
        }

        private static int reviewedTerm(int term, int closure, State now) {
            int day = term;
            for (int r = 0; r < now.reviews[closure]; r++) {
                int reviewDay = now.reviewDay[closure][r];
                if (day > reviewDay) {
                    int changed = Calendar.yearsOn(day, now.reviewYears[closure][r]);
                    day = Math.max(changed, reviewDay);
                }
            }
            return day;
        }

        private int targetsOf(int closure) {
            return toldIn(terms[closure]);
        }

        private int closedUnder(int closure) {
            return toldIn(ends[closure]);
        }

        private int toldIn(int[] days) {
            int bits = 0;
            for (int p = 0; p < pieces; p++) {
                if (days[p] != NONE) {
                    bits |= 1 << p;
                }
            }
            return bits;
        }

        /** The day on which a piece opens under some closures (bits). */
        private int openingOf(int piece, int holding) {
            int latest = 0;
            for (int c = 0; c < closures; c++) {
                if (hasBit(holding, c)) {
                    latest = Math.max(latest, ends[c][piece]);
                }
            }
            return latest;
        }

        /** Those of some closures (bits) by which a piece is closed on a day. */
        private int closersOf(int piece, int day, int holding) {
            int bits = 0;
            for (int c = 0; c < closures; c++) {
                if (hasBit(holding, c) && day < ends[c][piece]) {
                    bits |= 1 << c;
                }
            }
            return bits;
        }

        private int openOn(int day, int holding) {
            int bits = 0;
            for (int p = 0; p < pieces; p++) {
                if (closersOf(p, day, holding) == 0) {
                    bits |= 1 << p;
                }
            }
            return bits;
        }

        /** The piece with just k others ahead of it. */
        private int pieceAt(int k, int holding) {
            for (int p = 0; p < pieces; p++) {
                openings[p] = openingOf(p, holding);
            }
            for (int p = 0; p < pieces; p++) {
                int ahead = 0;
                for (int other = 0; other < pieces; other++) {
                    if (comesAhead(other, p)) {
                        ahead++;
                    }
                }
                if (ahead == k) {
                    return p;
                }
            }
            return NONE;
        }

        private boolean comesAhead(int piece, int other) {
            if (openings[piece] != openings[other]) {
                return openings[piece] < openings[other];
            }
            if (depth[piece] != depth[other]) {
                return depth[piece] > depth[other];
            }
            return piece < other;
        }

        private int bestToLift(int day, int holding, int most) {
            for (int p = 0; p < pieces; p++) {
                closers[p] = closersOf(p, day, holding);
            }
            int best = 0;
            int mostOpen = openWhenGone(0);
            // Fewer ones first, then by their bits: so a later one must open more to be better.
            for (int size = 1; size <= most; size++) {
                int gone = (1 << size) - 1;
                for (int step = 0; step < MOST_CHOICES && gone < 1 << closures; step++) {
                    int nowOpen = openWhenGone(gone);
                    if (nowOpen > mostOpen) {
                        mostOpen = nowOpen;
                        best = gone;
                    }
                    gone = nextOfSameSize(gone);
                }
            }
            return best;
        }

        private int openWhenGone(int gone) {
            int sum = 0;
            for (int p = 0; p < pieces; p++) {
                if ((closers[p] & ~gone) == 0) {
                    sum++;
                }
            }
            return sum;
        }

        /** The next greater number with as many bits: the lowest run's top bit moves up, the others down. */
        private static int nextOfSameSize(int bits) {
            int lowest = bits & -bits;
            int carried = bits + lowest;
            int moved = (bits ^ carried) >>> 2 >>> Integer.numberOfTrailingZeros(lowest);
            return carried | moved;
        }
    }

    /** Parts the bytes of a text into tokens; one is looked at, the next come behind it. */
    private static final class Tokens {
        private static final int PERSON = 0;
        private static final int BORN = 1;
        private static final int DIED = 2;
        private static final int DEPOSIT = 3;
        private static final int PIECE = 4;
        private static final int IN = 5;
        private static final int OF = 6;
        private static final int FROM = 7;
        private static final int CLOSE = 8;
        private static final int CONTENT = 9;
        private static final int UNTIL = 10;
        private static final int WHOLE = 11;
        private static final int NAME = 12;
        private static final int NUMBER = 13;
        private static final int SEMICOLON = 14;
        private static final int END = 15;
        private static final int NO_TOKEN = 16;

        /** In the order of their kinds. */
        private static final String KEYWORDS =
            "person born died deposit piece in of from close content until whole ";
        private static final int LONGEST = 8;
        /** More than there are letters: a word of eight of them is one long. */
        private static final int LETTER_STEP = 32;

        private final long[] keywords = new long[NAME];
        private byte[] bytes = new byte[0];
        private int end;
        private int at;
        private int kind;
        private int place;
        private long word;
        private int number;

        private Tokens() {
            int k = 0;
            for (int i = 0; i < KEYWORDS.length() && k < NAME; i++) {
                if (KEYWORDS.charAt(i) == ' ') {
                    k++;
                } else {
                    keywords[k] = withLetter(keywords[k], KEYWORDS.charAt(i));
                }
            }
        }

        private void start(byte[] tape, int n) {
            bytes = tape;
            end = Math.min(n, tape.length);
            at = 0;
            advance();
        }

        private void advance() {
            while (at < end && (bytes[at] == ' ' || bytes[at] == '\n')) {
                at++;
            }
            place = at;
            if (at >= end) {
                kind = END;
            } else if (isLetter(bytes[at])) {
                takeWord();
            } else if (isDigit(bytes[at])) {
                takeNumber();
            } else {
                kind = bytes[at] == ';' ? SEMICOLON : NO_TOKEN;
                at++;
            }
        }

        private void takeWord() {
            word = 0;
            while (at < end && isLetter(bytes[at])) {
                if (at - place < LONGEST) {
                    word = withLetter(word, bytes[at]);
                }
                at++;
            }
            kind = at - place > LONGEST ? NO_TOKEN : kindOf(word);
        }

        private void takeNumber() {
            number = 0;
            while (at < end && isDigit(bytes[at])) {
                if (at - place < LONGEST) {
                    number = number * 10 + bytes[at] - '0';
                }
                at++;
            }
            kind = at - place > LONGEST ? NO_TOKEN : NUMBER;
        }

        private int kindOf(long letters) {
            for (int k = 0; k < NAME; k++) {
                if (keywords[k] == letters) {
                    return k;
                }
            }
            return NAME;
        }

        private static long withLetter(long letters, int letter) {
            return letters * LETTER_STEP + letter - 'a' + 1;
        }

        private static boolean isLetter(int sign) {
            return sign >= 'a' && sign <= 'z';
        }

        private static boolean isDigit(int sign) {
            return sign >= '0' && sign <= '9';
        }
    }

    /**
     * Reads a text into holdings. It goes on behind a fault, but only the first is kept: faults are found in
     * the order of their places, and no line with one is taken.
     */
    private static final class TextReader {
        private static final int NOT_A_TEXT = 1;
        private static final int TOLD_TWICE = 2;
        private static final int NOT_TOLD = 3;
        private static final int BAD_NUMBER = 4;
        private static final int TOO_MANY = 5;

        private static final int MOST_NAMES = MOST_PEOPLE + MOST_DEPOSITS + MOST_PIECES;
        /** What the name in a closure is of, by the closure's sort. */
        private static final int[] ASKED_OF = {Tokens.PIECE, Tokens.PERSON, Tokens.DEPOSIT, Tokens.PIECE};

        private final Tokens tokens = new Tokens();
        private final long[] names = new long[MOST_NAMES];
        private final int[] nameKinds = new int[MOST_NAMES];
        private final int[] nameNumbers = new int[MOST_NAMES];
        private int nameCount;
        private int fault;

        /** How many lines there are, or the fault as the face answers it. */
        private int read(byte[] bytes, int n, Holdings told, State state) {
            told.clear();
            state.clear();
            nameCount = 0;
            fault = NONE;
            tokens.start(bytes, n);
            int lines = 0;
            // Each line has bytes of its own, so there are never more lines than bytes.
            while (lines < MOST_BYTES && fault == NONE && tokens.kind != Tokens.END) {
                switch (tokens.kind) {
                    case Tokens.PERSON:
                        readPerson(told, state);
                        break;
                    case Tokens.DEPOSIT:
                        readDeposit(told);
                        break;
                    case Tokens.PIECE:
                        readPiece(told, state);
                        break;
                    case Tokens.CLOSE:
                        readClose(told);
                        break;
                    default:
                        fail(NOT_A_TEXT, tokens.place);
                        break;
                }
                lines++;
            }
            return fault == NONE ? lines : WRONG - fault;
        }

        private void readPerson(Holdings told, State state) {
            int person = told.people;
            if (person >= MOST_PEOPLE) {
                fail(TOO_MANY, tokens.place);
                return;
            }
            tokens.advance();
            long name = readNewName();
            int birth = NONE;
            if (passes(Tokens.BORN)) {
                birth = readDate();
            }
            int death = NONE;
            if (passes(Tokens.DIED)) {
                int place = tokens.place;
                death = readDate();
                if (death < birth) {
                    fail(BAD_NUMBER, place);
                }
            }
            pass(Tokens.SEMICOLON);
            if (fault == NONE) {
                told.birth[person] = birth;
                state.death[person] = death;
                told.people++;
                addName(name, Tokens.PERSON, person);
            }
        }

        private void readDeposit(Holdings told) {
            int deposit = told.deposits;
            if (deposit >= MOST_DEPOSITS) {
                fail(TOO_MANY, tokens.place);
                return;
            }
            tokens.advance();
            long name = readNewName();
            told.depositDay[deposit] = readDate();
            pass(Tokens.SEMICOLON);
            if (fault == NONE) {
                told.deposits++;
                addName(name, Tokens.DEPOSIT, deposit);
            }
        }

        private void readPiece(Holdings told, State state) {
            int piece = told.pieces;
            if (piece >= MOST_PIECES) {
                fail(TOO_MANY, tokens.place);
                return;
            }
            tokens.advance();
            long name = readNewName();
            state.parent[piece] = passes(Tokens.IN) ? readName(Tokens.PIECE) : NONE;
            told.lastDay[piece] = readDate();
            told.peopleOf[piece] = readPeopleOf();
            told.depositOf[piece] = passes(Tokens.FROM) ? readName(Tokens.DEPOSIT) : NONE;
            pass(Tokens.SEMICOLON);
            if (fault == NONE) {
                told.pieces++;
                addName(name, Tokens.PIECE, piece);
            }
        }

        private int readPeopleOf() {
            int people = 0;
            for (int named = 0; named <= MOST_PEOPLE_OF_PIECE && tokens.kind == Tokens.OF; named++) {
                if (named == MOST_PEOPLE_OF_PIECE) {
                    fail(TOO_MANY, tokens.place);
                }
                tokens.advance();
                int place = tokens.place;
                int person = readName(Tokens.PERSON);
                if (hasBit(people, person)) {
                    fail(TOLD_TWICE, place);
                }
                people |= 1 << person;
            }
            return people;
        }

        private void readClose(Holdings told) {
            int closure = told.closures;
            if (closure >= MOST_CLOSURES) {
                fail(TOO_MANY, tokens.place);
                return;
            }
            tokens.advance();
            int sort = closureSort(tokens.kind);
            if (sort == NONE) {
                fail(NOT_A_TEXT, tokens.place);
                return;
            }
            tokens.advance();
            told.sort[closure] = sort;
            told.subject[closure] = readName(ASKED_OF[sort]);
            told.untilDay[closure] = NONE;
            told.whole[closure] = false;
            if (sort == BY_UNTIL) {
                told.untilDay[closure] = readDate();
            } else {
                readYears(told.years[closure], sort == BY_PERSON ? YEARS_OF_CLOSURE : 1);
                told.whole[closure] = passes(Tokens.WHOLE);
            }
            pass(Tokens.SEMICOLON);
            if (fault == NONE) {
                told.closures++;
            }
        }

        private static int closureSort(int kind) {
            switch (kind) {
                case Tokens.CONTENT:
                    return BY_CONTENT;
                case Tokens.PERSON:
                    return BY_PERSON;
                case Tokens.DEPOSIT:
                    return BY_DEPOSIT;
                case Tokens.UNTIL:
                    return BY_UNTIL;
                default:
                    return NONE;
            }
        }

        private void readYears(int[] years, int many) {
            for (int y = 0; y < many && y < years.length; y++) {
                years[y] = readNumber(0, MOST_YEARS);
            }
        }

        private int readDate() {
            int year = readNumber(Calendar.FIRST_YEAR, Calendar.LAST_YEAR);
            int month = readNumber(1, Calendar.MONTH_LENGTHS.length);
            int dayOfMonth = readNumber(1, Calendar.monthLength(year, month));
            return Calendar.numberOf(year, month, dayOfMonth);
        }

        private int readNumber(int least, int most) {
            if (tokens.kind != Tokens.NUMBER) {
                fail(NOT_A_TEXT, tokens.place);
                return NONE;
            }
            int number = tokens.number;
            if (number < least || number > most) {
                fail(BAD_NUMBER, tokens.place);
            }
            tokens.advance();
            return number;
        }

        private long readNewName() {
            if (tokens.kind != Tokens.NAME) {
                fail(NOT_A_TEXT, tokens.place);
                return 0;
            }
            long name = tokens.word;
            if (slotOf(name) != NONE) {
                fail(TOLD_TWICE, tokens.place);
            }
            tokens.advance();
            return name;
        }

        /** The number of what bears a name told ahead; NONE behind a fault. */
        private int readName(int kind) {
            if (tokens.kind != Tokens.NAME) {
                fail(NOT_A_TEXT, tokens.place);
                return NONE;
            }
            int slot = slotOf(tokens.word);
            boolean fits = slot != NONE && nameKinds[slot] == kind;
            if (!fits) {
                fail(NOT_TOLD, tokens.place);
            }
            tokens.advance();
            return fits ? nameNumbers[slot] : NONE;
        }

        private int slotOf(long name) {
            for (int i = 0; i < nameCount; i++) {
                if (names[i] == name) {
                    return i;
                }
            }
            return NONE;
        }

        /** Only at the end of its line, as no line may ask for the name that it gives. */
        private void addName(long name, int kind, int number) {
            if (nameCount >= MOST_NAMES) {
                return;
            }
            names[nameCount] = name;
            nameKinds[nameCount] = kind;
            nameNumbers[nameCount] = number;
            nameCount++;
        }

        private boolean passes(int kind) {
            if (tokens.kind != kind) {
                return false;
            }
            tokens.advance();
            return true;
        }

        private void pass(int kind) {
            if (!passes(kind)) {
                fail(NOT_A_TEXT, tokens.place);
            }
        }

        private void fail(int kind, int place) {
            if (fault == NONE) {
                fault = 8 * place + kind;
            }
        }
    }
}

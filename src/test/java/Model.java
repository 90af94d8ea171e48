import java.time.LocalDate;
import java.time.temporal.ChronoUnit;
import java.util.ArrayDeque;
import java.util.ArrayList;
import java.util.Arrays;
import java.util.Comparator;
import java.util.Deque;
import java.util.HashMap;
import java.util.List;
import java.util.Map;
import java.util.NoSuchElementException;
import java.util.Set;
import java.util.TreeMap;
import java.util.TreeSet;
import java.util.regex.Matcher;
import java.util.regex.Pattern;

/** The document said again, as plainly and slowly as can be: nothing is kept that can be found anew. */
final class Model {
    static final int LATE = 219145;
    private static final LocalDate FIRST = LocalDate.of(1700, 1, 1);
    private static final Set<String> KEYWORDS = Set.of("person", "born", "died", "deposit", "piece", "in", "of",
        "from", "close", "content", "until", "whole");
    private static final List<String> SORTS = List.of("content", "person", "deposit", "until");

    record Token(int place, String sign) { }

    record Review(int day, int years) { }

    static final class Fault extends RuntimeException {
        private static final long serialVersionUID = 1L;
        final int place;
        final int kind;

        Fault(int place, int kind) {
            this.place = place;
            this.kind = kind;
        }
    }

    static final class Person {
        Integer birth;
        Integer death;
    }

    static final class Piece {
        int lastDay;
        Set<Integer> people = new TreeSet<>();
        Integer deposit;
        Integer parent;
    }

    static final class Closure {
        int sort;
        int subject;
        boolean whole;
        List<Integer> years = new ArrayList<>();
        int until;
        Integer lifted;
        List<Review> reviews = new ArrayList<>();
    }

    static final class World {
        List<Person> people = new ArrayList<>();
        List<Integer> deposits = new ArrayList<>();
        List<Piece> pieces = new ArrayList<>();
        List<Closure> closures = new ArrayList<>();

        World copy() {
            World w = new World();
            for (Person p : people) {
                Person q = new Person();
                q.birth = p.birth;
                q.death = p.death;
                w.people.add(q);
            }
            w.deposits.addAll(deposits);
            for (Piece p : pieces) {
                Piece q = new Piece();
                q.lastDay = p.lastDay;
                q.people.addAll(p.people);
                q.deposit = p.deposit;
                q.parent = p.parent;
                w.pieces.add(q);
            }
            for (Closure c : closures) {
                Closure e = new Closure();
                e.sort = c.sort;
                e.subject = c.subject;
                e.whole = c.whole;
                e.years.addAll(c.years);
                e.until = c.until;
                e.lifted = c.lifted;
                e.reviews.addAll(c.reviews);
                w.closures.add(e);
            }
            return w;
        }
    }

    private final List<Byte> tape = new ArrayList<>();
    private World world = new World();
    private final Deque<World> undoable = new ArrayDeque<>();
    private final Map<Integer, World> keeps = new HashMap<>();

    // ---- text

    int feed(int... numbers) {
        if (tape.size() + 20 > 1000) {
            return -1;
        }
        for (int n : numbers) {
            for (byte b : java.nio.ByteBuffer.allocate(4).putInt(n).array()) {
                tape.add(b);
            }
        }
        return tape.size();
    }

    int text(int n) {
        if (n < 0 || n > tape.size()) {
            return -1;
        }
        StringBuilder text = new StringBuilder();
        for (byte b : tape.subList(0, n)) {
            text.append((char) (b & 255));
        }
        tape.clear();
        return read(text.toString());
    }

    int read(String text) {
        try {
            Reading reading = new Reading(text);
            int lines = reading.all();
            world = reading.made;
            undoable.clear();
            keeps.clear();
            return lines;
        } catch (Fault f) {
            return -2 - (8 * f.place + f.kind);
        }
    }

    private static final class Reading {
        final World made = new World();
        final Map<String, String> kinds = new HashMap<>();
        final Map<String, Integer> numbers = new HashMap<>();
        final List<Token> tokens = new ArrayList<>();
        int at = 0;

        Reading(String text) {
            Matcher m = Pattern.compile("[a-z]+|[0-9]+|[^ \n]").matcher(text);
            while (m.find()) {
                boolean token = m.group().matches("[a-z]{1,8}|[0-9]{1,8}|;");
                tokens.add(new Token(m.start(), token ? m.group() : "no token"));
            }
            tokens.add(new Token(text.length(), "the end"));
        }

        String sign() {
            return tokens.get(at).sign();
        }

        int place() {
            return tokens.get(at).place();
        }

        void must(boolean holds, int kind) {
            if (!holds) {
                throw new Fault(place(), kind);
            }
        }

        boolean may(String word) {
            boolean is = sign().equals(word);
            at += is ? 1 : 0;
            return is;
        }

        int all() {
            int lines = 0;
            while (!sign().equals("the end")) {
                line();
                must(sign().equals(";"), 1);
                at++;
                lines++;
            }
            return lines;
        }

        void line() {
            must(Set.of("person", "deposit", "piece", "close").contains(sign()), 1);
            switch (sign()) {
                case "person" -> person();
                case "deposit" -> deposit();
                case "piece" -> piece();
                default -> close();
            }
        }

        void name() {
            must(sign().matches("[a-z]{1,8}") && !KEYWORDS.contains(sign()), 1);
        }

        String newName() {
            name();
            must(!kinds.containsKey(sign()), 2);
            return tokens.get(at++).sign();
        }

        int oldName(String kind) {
            name();
            must(kind.equals(kinds.get(sign())), 3);
            return numbers.get(tokens.get(at++).sign());
        }

        int number(int least, int most) {
            must(sign().matches("[0-9]{1,8}"), 1);
            int n = Integer.parseInt(sign());
            must(n >= least && n <= most, 4);
            at++;
            return n;
        }

        int date() {
            int year = number(1700, 2299);
            int month = number(1, 12);
            int day = number(1, LocalDate.of(year, month, 1).lengthOfMonth());
            return dayOf(LocalDate.of(year, month, day));
        }

        void person() {
            must(made.people.size() < 8, 5);
            at++;
            String name = newName();
            Person p = new Person();
            if (may("born")) {
                p.birth = date();
            }
            if (may("died")) {
                int place = place();
                p.death = date();
                if (p.birth != null && p.death < p.birth) {
                    throw new Fault(place, 4);
                }
            }
            give(name, "person", made.people.size());
            made.people.add(p);
        }

        void deposit() {
            must(made.deposits.size() < 4, 5);
            at++;
            String name = newName();
            int day = date();
            give(name, "deposit", made.deposits.size());
            made.deposits.add(day);
        }

        void piece() {
            must(made.pieces.size() < 24, 5);
            at++;
            String name = newName();
            Piece p = new Piece();
            if (may("in")) {
                p.parent = oldName("piece");
            }
            p.lastDay = date();
            while (sign().equals("of")) {
                must(p.people.size() < 4, 5);
                at++;
                int place = place();
                if (!p.people.add(oldName("person"))) {
                    throw new Fault(place, 2);
                }
            }
            if (may("from")) {
                p.deposit = oldName("deposit");
            }
            give(name, "piece", made.pieces.size());
            made.pieces.add(p);
        }

        void close() {
            must(made.closures.size() < 12, 5);
            at++;
            Closure c = new Closure();
            c.sort = SORTS.indexOf(sign());
            must(c.sort >= 0, 1);
            at++;
            c.subject = oldName(c.sort == 1 ? "person" : c.sort == 2 ? "deposit" : "piece");
            if (c.sort == 3) {
                c.until = date();
            } else {
                for (int i = 0; i < (c.sort == 1 ? 3 : 1); i++) {
                    c.years.add(number(0, 200));
                }
                c.whole = may("whole");
            }
            made.closures.add(c);
        }

        void give(String name, String kind, int number) {
            kinds.put(name, kind);
            numbers.put(name, number);
        }
    }

    // ---- the calendar

    static int dayOf(LocalDate date) {
        long day = ChronoUnit.DAYS.between(FIRST, date);
        return (int) Math.max(0, Math.min(LATE, day));
    }

    static int add(int day, int years) {
        return day >= LATE ? LATE : dayOf(FIRST.plusDays(day).plusYears(years));
    }

    // ---- what follows

    private boolean isPiece(int p) {
        return p >= 0 && p < world.pieces.size();
    }

    private boolean isPerson(int p) {
        return p >= 0 && p < world.people.size();
    }

    private boolean isClosure(int c) {
        return c >= 0 && c < world.closures.size();
    }

    private static boolean isReaders(int r) {
        return r >= 0 && r < 16;
    }

    private static boolean isDay(int d) {
        return d >= 0 && d <= LATE;
    }

    private static int or(Integer value) {
        return value == null ? -1 : value;
    }

    private List<Integer> chain(int piece) {
        List<Integer> chain = new ArrayList<>();
        for (Integer p = piece; p != null; p = world.pieces.get(p).parent) {
            chain.add(p);
        }
        return chain;
    }

    private boolean isUnder(int piece, int above) {
        return chain(piece).contains(above);
    }

    private boolean isTarget(int closure, int piece) {
        Closure c = world.closures.get(closure);
        Piece p = world.pieces.get(piece);
        return switch (c.sort) {
            case 1 -> p.people.contains(c.subject);
            case 2 -> p.deposit != null && p.deposit == c.subject;
            default -> c.subject == piece;
        };
    }

    private int termOf(int closure, int target) {
        Closure c = world.closures.get(closure);
        int lastDay = world.pieces.get(target).lastDay;
        int day;
        if (c.sort == 0) {
            day = add(lastDay, c.years.get(0));
        } else if (c.sort == 1) {
            Person p = world.people.get(c.subject);
            day = p.death != null ? add(p.death, c.years.get(0))
                : p.birth != null ? add(p.birth, c.years.get(1)) : add(lastDay, c.years.get(2));
        } else if (c.sort == 2) {
            day = add(world.deposits.get(c.subject), c.years.get(0));
        } else {
            day = c.until;
        }
        if (c.whole && day < LATE) {
            day = dayOf(LocalDate.of(FIRST.plusDays(day).getYear() + 1, 1, 1));
        }
        List<Review> inOrder = new ArrayList<>(c.reviews);
        inOrder.sort(Comparator.comparingInt(Review::day));
        for (Review r : inOrder) {
            if (day > r.day()) {
                day = Math.max(r.day(), add(day, r.years()));
            }
        }
        return c.lifted == null ? day : Math.min(day, c.lifted);
    }

    private Integer endsOf(int closure, int piece) {
        Integer latest = null;
        for (int above : chain(piece)) {
            if (isTarget(closure, above)) {
                int term = termOf(closure, above);
                latest = latest == null ? term : Integer.valueOf(Math.max(latest, term));
            }
        }
        return latest;
    }

    /** Closures that close a piece for readers, with their ends, without some (bits). */
    private Map<Integer, Integer> allEnds(int piece, int readers, int without) {
        Map<Integer, Integer> ends = new TreeMap<>();
        for (int c = 0; c < world.closures.size(); c++) {
            Integer end = endsOf(c, piece);
            boolean holds = (readers >> world.closures.get(c).sort & 1) == 0 && (without >> c & 1) == 0;
            if (end != null && holds) {
                ends.put(c, end);
            }
        }
        return ends;
    }

    private int opensOn(int piece, int readers, int without) {
        int latest = 0;
        for (int end : allEnds(piece, readers, without).values()) {
            latest = Math.max(latest, end);
        }
        return latest;
    }

    private int bitsOfPieces(java.util.function.IntPredicate test) {
        int bits = 0;
        for (int p = 0; p < world.pieces.size(); p++) {
            bits |= test.test(p) ? 1 << p : 0;
        }
        return bits;
    }

    // ---- the face

    int day(int year, int month, int day) {
        if (year < 1700 || year > 2299 || month < 1 || month > 12 || day < 1) {
            return -1;
        }
        return day > LocalDate.of(year, month, 1).lengthOfMonth() ? -1 : dayOf(LocalDate.of(year, month, day));
    }

    int date(int day, int what) {
        if (day < 0 || day >= LATE) {
            return -1;
        }
        LocalDate date = FIRST.plusDays(day);
        return switch (what) {
            case 0 -> date.getYear();
            case 1 -> date.getMonthValue();
            case 2 -> date.getDayOfMonth();
            case 3 -> date.getDayOfWeek().ordinal();
            default -> -1;
        };
    }

    int plus(int day, int years) {
        return isDay(day) && Math.abs((long) years) <= 600 ? add(day, years) : -1;
    }

    int piece(int piece, int what) {
        if (!isPiece(piece)) {
            return -2;
        }
        Piece p = world.pieces.get(piece);
        return switch (what) {
            case 0 -> or(p.parent);
            case 1 -> p.lastDay;
            case 2 -> p.people.stream().mapToInt(x -> 1 << x).sum();
            case 3 -> or(p.deposit);
            case 4 -> bitsOfPieces(q -> isUnder(q, piece));
            case 5 -> chain(piece).size() - 1;
            default -> -2;
        };
    }

    int person(int person, int what) {
        if (!isPerson(person)) {
            return -2;
        }
        Person p = world.people.get(person);
        return switch (what) {
            case 0 -> or(p.birth);
            case 1 -> or(p.death);
            case 2 -> bitsOfPieces(q -> world.pieces.get(q).people.contains(person));
            default -> -2;
        };
    }

    int closure(int closure, int what) {
        if (!isClosure(closure)) {
            return -2;
        }
        Closure c = world.closures.get(closure);
        return switch (what) {
            case 0 -> c.sort;
            case 1 -> c.subject;
            case 2 -> c.whole ? 1 : 0;
            case 3 -> c.reviews.size();
            case 4 -> or(c.lifted);
            case 5 -> bitsOfPieces(p -> isTarget(closure, p));
            case 6 -> bitsOfPieces(p -> endsOf(closure, p) != null);
            default -> -2;
        };
    }

    int term(int closure, int piece) {
        return isClosure(closure) && isPiece(piece) && isTarget(closure, piece) ? termOf(closure, piece) : -1;
    }

    int ends(int closure, int piece) {
        return isClosure(closure) && isPiece(piece) ? or(endsOf(closure, piece)) : -1;
    }

    int opens(int piece, int readers) {
        return isPiece(piece) && isReaders(readers) ? opensOn(piece, readers, 0) : -1;
    }

    int allOf(int piece, int readers) {
        if (!isPiece(piece) || !isReaders(readers)) {
            return -1;
        }
        int latest = 0;
        for (int p = 0; p < world.pieces.size(); p++) {
            latest = isUnder(p, piece) ? Math.max(latest, opensOn(p, readers, 0)) : latest;
        }
        return latest;
    }

    int reason(int piece, int readers) {
        if (!isPiece(piece) || !isReaders(readers)) {
            return -1;
        }
        int opens = opensOn(piece, readers, 0);
        for (Map.Entry<Integer, Integer> e : allEnds(piece, readers, 0).entrySet()) {
            if (e.getValue() == opens && opens > 0) {
                return e.getKey();
            }
        }
        return -1;
    }

    int closedBy(int piece, int day) {
        if (!isPiece(piece) || !isDay(day)) {
            return -1;
        }
        int bits = 0;
        for (Map.Entry<Integer, Integer> e : allEnds(piece, 0, 0).entrySet()) {
            bits |= e.getValue() > day ? 1 << e.getKey() : 0;
        }
        return bits;
    }

    int sooner(int closure, int piece, int readers) {
        if (!isClosure(closure) || !isPiece(piece) || !isReaders(readers)) {
            throw new NoSuchElementException();
        }
        return opensOn(piece, readers, 0) - opensOn(piece, readers, 1 << closure);
    }

    int open(int day, int readers) {
        return isDay(day) && isReaders(readers) ? bitsOfPieces(p -> opensOn(p, readers, 0) <= day) : -1;
    }

    int next(int day, int readers) {
        if (day < -1 || day > LATE || !isReaders(readers)) {
            return -1;
        }
        TreeSet<Integer> days = new TreeSet<>();
        for (int p = 0; p < world.pieces.size(); p++) {
            days.add(opensOn(p, readers, 0));
        }
        return or(days.higher(day));
    }

    int listed(int k, int readers) {
        if (!isPiece(k) || !isReaders(readers)) {
            return -1;
        }
        List<int[]> rows = new ArrayList<>();
        for (int p = 0; p < world.pieces.size(); p++) {
            rows.add(new int[] {opensOn(p, readers, 0), -chain(p).size(), p});
        }
        rows.sort(Arrays::compare);
        return rows.get(k)[2];
    }

    int mustGo(int piece, int day, int readers) {
        if (!isPiece(piece) || !isDay(day) || !isReaders(readers)) {
            return -1;
        }
        int bits = 0;
        for (int p = 0; p < world.pieces.size(); p++) {
            for (Map.Entry<Integer, Integer> e : allEnds(p, readers, 0).entrySet()) {
                bits |= isUnder(p, piece) && e.getValue() > day ? 1 << e.getKey() : 0;
            }
        }
        return bits;
    }

    int best(int day, int readers, int n) {
        if (!isDay(day) || !isReaders(readers) || n < 0 || n > 3) {
            return -1;
        }
        List<Integer> closers = new ArrayList<>();
        for (int p = 0; p < world.pieces.size(); p++) {
            int bits = 0;
            for (Map.Entry<Integer, Integer> e : allEnds(p, readers, 0).entrySet()) {
                bits |= e.getValue() > day ? 1 << e.getKey() : 0;
            }
            closers.add(bits);
        }
        List<int[]> rows = new ArrayList<>();
        for (int gone = 0; gone < 1 << world.closures.size(); gone++) {
            int without = gone;
            int open = (int) closers.stream().filter(bits -> (bits & ~without) == 0).count();
            if (Integer.bitCount(gone) <= n) {
                rows.add(new int[] {-open, Integer.bitCount(gone), gone});
            }
        }
        rows.sort(Arrays::compare);
        return rows.get(0)[2];
    }

    int openWithout(int day, int readers, int closures) {
        if (!isDay(day) || !isReaders(readers) || closures < 0 || closures >= 1 << world.closures.size()) {
            return -1;
        }
        return Integer.bitCount(bitsOfPieces(p -> opensOn(p, readers, closures) <= day));
    }

    // ---- acts

    private void act() {
        undoable.addLast(world.copy());
        if (undoable.size() > 12) {
            undoable.removeFirst();
        }
    }

    int review(int closure, int day, int years) {
        if (!isClosure(closure) || day < 0 || day >= LATE || years < -50 || years > 50
            || world.closures.get(closure).reviews.size() == 5) {
            return -1;
        }
        act();
        world.closures.get(closure).reviews.add(new Review(day, years));
        return world.closures.get(closure).reviews.size();
    }

    int lift(int closure, int day) {
        if (!isClosure(closure) || day < -1 || day >= LATE) {
            return -2;
        }
        act();
        Integer was = world.closures.get(closure).lifted;
        world.closures.get(closure).lifted = day == -1 ? null : Integer.valueOf(day);
        return or(was);
    }

    int died(int person, int day) {
        if (!isPerson(person) || day < -1 || day >= LATE) {
            return -2;
        }
        if (day >= 0 && day < or(world.people.get(person).birth)) {
            return -2;
        }
        act();
        Integer was = world.people.get(person).death;
        world.people.get(person).death = day == -1 ? null : Integer.valueOf(day);
        return or(was);
    }

    int put(int piece, int parent) {
        if (!isPiece(piece) || (parent != -1 && (!isPiece(parent) || isUnder(parent, piece)))) {
            return -2;
        }
        act();
        Integer was = world.pieces.get(piece).parent;
        world.pieces.get(piece).parent = parent == -1 ? null : Integer.valueOf(parent);
        return or(was);
    }

    int undo() {
        if (undoable.isEmpty()) {
            return -1;
        }
        world = undoable.removeLast();
        return undoable.size();
    }

    boolean keep(int k, boolean back) {
        if (k != 0 && k != 1) {
            return false;
        }
        if (!back) {
            keeps.put(k, world.copy());
            return true;
        }
        if (!keeps.containsKey(k)) {
            return false;
        }
        world = keeps.get(k).copy();
        undoable.clear();
        return true;
    }

    int count(int what) {
        int reviews = 0;
        int lifted = 0;
        for (int c = 0; c < world.closures.size(); c++) {
            reviews += world.closures.get(c).reviews.size();
            lifted |= world.closures.get(c).lifted != null ? 1 << c : 0;
        }
        return switch (what) {
            case 0 -> world.pieces.size();
            case 1 -> world.people.size();
            case 2 -> world.deposits.size();
            case 3 -> world.closures.size();
            case 4 -> reviews;
            case 5 -> lifted;
            case 6 -> undoable.size();
            case 7 -> tape.size();
            default -> -1;
        };
    }
}

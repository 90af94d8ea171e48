import java.util.ArrayList;
import java.util.List;
import java.util.Random;

/** Makes texts by chance: most of them right, and some spoilt. */
final class Texts {
    private static final String[] SPOILS = {";", " ", "\n", "$", "person", " of ", "a", "9", " 13 ", "abcdefghi", " b",
        "close", "\t", " in ", "0", " whole", ";;", " died 1700 1 1", "deposit ", " 201"};

    private final Random random;
    private final List<String> people = new ArrayList<>();
    private final List<String> deposits = new ArrayList<>();
    private final List<String> pieces = new ArrayList<>();
    private int names = 0;

    Texts(Random random) {
        this.random = random;
    }

    private String newName() {
        String name = "";
        for (int n = names++ + 1; n > 0; n /= 20) {
            name += (char) ('a' + n % 20);
        }
        return "x" + name;
    }

    private String oneOf(List<String> list) {
        return list.get(random.nextInt(list.size()));
    }

    private String dateOf(int year) {
        int month = 1 + random.nextInt(12);
        int day = random.nextInt(5) == 0 ? 28 : 1 + random.nextInt(28);
        if (random.nextInt(6) == 0) {
            return " " + (year / 4 * 4 % 100 == 0 ? 2000 : year / 4 * 4) + " 2 29";
        }
        return " " + year + " " + month + " " + day;
    }

    private String date() {
        int far = random.nextInt(10);
        return dateOf(far == 0 ? 2280 + random.nextInt(20) : far == 1 ? 1700 + random.nextInt(20)
            : 1850 + random.nextInt(100));
    }

    private String years() {
        return " " + (random.nextInt(6) == 0 ? random.nextInt(201) : random.nextInt(60));
    }

    private String personLine() {
        String name = newName();
        people.add(name);
        String birth = random.nextInt(3) > 0 ? " born" + dateOf(1800 + random.nextInt(50)) : "";
        String death = random.nextInt(3) == 0 ? " died" + dateOf(1880 + random.nextInt(50)) : "";
        return "person " + name + birth + death + ";";
    }

    private String depositLine() {
        String name = newName();
        deposits.add(name);
        return "deposit " + name + date() + ";";
    }

    private String pieceLine() {
        StringBuilder line = new StringBuilder("piece ");
        String name = newName();
        line.append(name);
        if (!pieces.isEmpty() && random.nextInt(4) > 0) {
            line.append(" in ").append(oneOf(pieces));
        }
        line.append(date());
        List<String> left = new ArrayList<>(people);
        for (int i = random.nextInt(3); i > 0 && !left.isEmpty(); i--) {
            line.append(" of ").append(left.remove(random.nextInt(left.size())));
        }
        if (!deposits.isEmpty() && random.nextInt(3) == 0) {
            line.append(" from ").append(oneOf(deposits));
        }
        pieces.add(name);
        return line + ";";
    }

    private String closeLine() {
        String whole = random.nextInt(3) == 0 ? " whole;" : ";";
        int sort = random.nextInt(4);
        if (sort == 1 && !people.isEmpty()) {
            return "close person " + oneOf(people) + years() + years() + years() + whole;
        }
        if (sort == 2 && !deposits.isEmpty()) {
            return "close deposit " + oneOf(deposits) + years() + whole;
        }
        if (pieces.isEmpty()) {
            return "";
        }
        return sort == 3 ? "close until " + oneOf(pieces) + date() + ";"
            : "close content " + oneOf(pieces) + years() + whole;
    }

    /** Of 1,000 bytes at most; with more of all than can be, if it may have too many. */
    String make(boolean tooMany) {
        StringBuilder text = new StringBuilder();
        int more = tooMany ? 1 : 0;
        int lines = random.nextInt(40 + 20 * more);
        int closures = 0;
        for (int i = 0; i < lines; i++) {
            boolean closes = i % 2 == 0 && closures < 12 + more;
            String line = closes ? closeLine() : pieces.size() < 24 + more ? pieceLine() : "";
            closures += line.startsWith("close") ? 1 : 0;
            if (i < 6 + 20 * more) {
                boolean person = random.nextInt(3) > 0 && people.size() < 8 + more;
                line += person ? personLine() : deposits.size() < 4 + more ? depositLine() : "";
            }
            if (text.length() + line.length() > 1000) {
                break;
            }
            text.append(line);
        }
        return text.toString();
    }

    /** As many of all as can be, in lines short enough for the tape. */
    String makeFull() {
        StringBuilder text = new StringBuilder();
        for (int i = 0; i < 8; i++) {
            text.append("person y").append((char) ('a' + i)).append(';');
        }
        for (int i = 0; i < 4; i++) {
            text.append("deposit z").append((char) ('a' + i)).append(" 19").append(random.nextInt(10)).append("0 1 1;");
        }
        for (int i = 0; i < 24; i++) {
            text.append("piece ").append((char) ('a' + i));
            if (i > 0 && random.nextInt(3) > 0) {
                text.append(" in ").append((char) ('a' + random.nextInt(i)));
            }
            text.append(" 18").append(10 + random.nextInt(90)).append(" 1 1");
            int more = random.nextInt(8);
            text.append(more == 0 ? " of y" + aLetter(8) : more == 1 ? " from z" + aLetter(4) : "").append(';');
        }
        for (int i = 0; i < 12; i++) {
            int sort = random.nextInt(4);
            text.append(sort == 0 ? "close person y" + aLetter(8) + " 9 9 " + random.nextInt(90)
                : sort == 1 ? "close deposit z" + aLetter(4) + " " + random.nextInt(90)
                : "close content " + aLetter(24) + " " + random.nextInt(90)).append(';');
        }
        return text.toString();
    }

    private char aLetter(int many) {
        return (char) ('a' + random.nextInt(many));
    }

    String spoilt(String text) {
        StringBuilder spoilt = new StringBuilder(text);
        int times = 1 + random.nextInt(2);
        for (int i = 0; i < times && spoilt.length() > 0; i++) {
            int at = random.nextInt(spoilt.length());
            switch (random.nextInt(4)) {
                case 0 -> spoilt.deleteCharAt(at);
                case 1 -> spoilt.insert(at, SPOILS[random.nextInt(SPOILS.length)]);
                case 2 -> spoilt.setCharAt(at, (char) ('0' + random.nextInt(10)));
                default -> spoilt.setLength(at);
            }
        }
        spoilt.setLength(Math.min(1000, spoilt.length()));
        return spoilt.toString();
    }
}

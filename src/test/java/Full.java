/** A text with as many of all as there may be, and what is in it. */
final class Full {
    static final int PEOPLE = 8;
    static final int DEPOSITS = 4;
    static final int PIECES = 24;
    static final int CLOSURES = 12;

    private Full() {
    }

    /** Names are two letters: the first tells of what. */
    static String name(char kind, int number) {
        return "" + kind + (char) ('a' + number);
    }

    static String people(int many) {
        StringBuilder text = new StringBuilder();
        for (int i = 0; i < many; i++) {
            text.append("person ").append(name('p', i)).append(';');
        }
        return text.toString();
    }

    static String deposits(int many) {
        StringBuilder text = new StringBuilder();
        for (int i = 0; i < many; i++) {
            text.append("deposit ").append(name('d', i)).append(" 1900 1 ").append(i + 1).append(';');
        }
        return text.toString();
    }

    static String pieces(int many) {
        StringBuilder text = new StringBuilder();
        for (int i = 0; i < many; i++) {
            text.append("piece ").append(name('q', i)).append(" 1800 1 ").append(i + 1).append(';');
        }
        return text.toString();
    }

    /** Closure c is of piece c and ends c years behind its last day. */
    static String closures(int many) {
        StringBuilder text = new StringBuilder();
        for (int i = 0; i < many; i++) {
            text.append("close content ").append(name('q', i)).append(' ').append(i).append(';');
        }
        return text.toString();
    }

    static String text() {
        return people(PEOPLE) + deposits(DEPOSITS) + pieces(PIECES) + closures(CLOSURES);
    }

    static ClosedUntil told() {
        return Checks.told(text());
    }
}

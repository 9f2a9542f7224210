/** What can be seen of a book by calls that change nothing: its row, and its own calendars by some of their dates. */
final class Seen {
    private static final int[] DAYS = {-40000000, 0, 1000, 40000000};
    private static final int ROW_LIMIT = 24;

    private Seen() {
    }

    static String of(DayBook book) {
        return row(book) + " 12: " + own(book, 12) + " 13: " + own(book, 13);
    }

    /** The row's characters, as far as they go without a gap. */
    static String text(DayBook book) {
        StringBuilder s = new StringBuilder();
        for (int i = 0; i <= ROW_LIMIT && book.letter(i) != 0; i++) {
            s.append(book.letter(i));
        }
        return s.toString();
    }

    private static String row(DayBook book) {
        StringBuilder s = new StringBuilder();
        for (int i = 0; i <= ROW_LIMIT; i++) {
            s.append(book.letter(i) == 0 ? '.' : book.letter(i));
        }
        return s.toString();
    }

    private static String own(DayBook book, int calendar) {
        StringBuilder s = new StringBuilder();
        try {
            for (int d : DAYS) {
                for (int which = 0; which <= 2; which++) {
                    s.append(book.date(calendar, d, which)).append(' ');
                }
            }
            for (int year = -3; year <= 4; year++) {
                s.append(book.leap(calendar, year) ? "leap " : "plain ");
            }
            return s.toString();
        } catch (IndexOutOfBoundsException e) {
            return "none";
        }
    }
}

/** Books in unlike states, new ones each time, each with few calls made. */
final class States {
    private static final String DATE = "2026/11/14";
    private static final String FULL = "0123456789-/-//012345678";

    private States() {
    }

    /** Without calendars of one's own: with an empty row, a date in it, and 24 characters. */
    static DayBook[] bare() {
        return new DayBook[] {new DayBook(), typed(new DayBook(), DATE), typed(new DayBook(), FULL)};
    }

    /** The same three with both calendars of one's own. */
    static DayBook[] own() {
        DayBook[] books = bare();
        for (DayBook book : books) {
            book.plug(0, 13, 28, 1, 1, 0, 4);
            book.plug(1, 1, 1, -1000000, 0, 0, 1);
        }
        return books;
    }

    static DayBook[] all() {
        DayBook[] bare = bare();
        DayBook[] own = own();
        return new DayBook[] {bare[0], bare[1], bare[2], own[0], own[1], own[2]};
    }

    static DayBook typed(DayBook book, String row) {
        book.wipe();
        for (char c : row.toCharArray()) {
            book.type(c);
        }
        return book;
    }
}

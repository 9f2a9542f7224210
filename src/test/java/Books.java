/** Hands out a book for the next call, a new one before the old one has had its 512 calls. */
final class Books {
    private static final int CALLS = 500;

    private final int[][] plugs;
    private DayBook book;
    private int calls = CALLS;

    /** Each row is the seven arguments of a plug() that every new book gets. */
    Books(int[]... plugs) {
        this.plugs = plugs;
    }

    DayBook next() {
        if (calls >= CALLS) {
            book = new DayBook();
            for (int[] p : plugs) {
                book.plug(p[0], p[1], p[2], p[3], p[4], p[5], p[6]);
            }
            calls = plugs.length;
        }
        calls++;
        return book;
    }
}

/** What the tests of the promises share: the count of answers, a book for the next call, and names for inputs. */
abstract class Promise {
    static final Class<? extends RuntimeException> PLACE = IndexOutOfBoundsException.class;
    static final Class<? extends RuntimeException> ARGUMENT = IllegalArgumentException.class;
    static final Class<? extends RuntimeException> NUMBER = ArithmeticException.class;
    static final Class<? extends RuntimeException> UNSUPPORTED = UnsupportedOperationException.class;

    static final int NONE = DayBook.NONE;
    static final int MIN = Integer.MIN_VALUE;
    static final int MAX = Integer.MAX_VALUE;
    static final int LAST_DAY = 40000000;

    /** Days that are not in the range, the nearest ones first. */
    static final int[] OUT = {-LAST_DAY - 1, LAST_DAY + 1, MIN, MAX};

    /** Numbers of calendars that are never there, the nearest ones first. */
    static final int[] NO_CALENDARS = {-1, 14, MIN, MAX};

    final Check check = new Check();
    Books books;

    /** Each row is the seven arguments of a plug() that every book gets. */
    Promise(int[]... plugs) {
        books = new Books(plugs);
    }
}

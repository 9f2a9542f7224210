/** Promise 2: plug. */
public final class PlugTest {
    private static final Class<? extends RuntimeException> PLACE = IndexOutOfBoundsException.class;
    private static final Class<? extends RuntimeException> ARGUMENT = IllegalArgumentException.class;

    private static final int[][] REFUSED = {
        {0, 0, 30, 1, 1, 0, 4}, {0, 21, 30, 1, 1, 0, 4}, {1, -1, 30, 1, 1, 0, 4},
        {0, 12, 0, 1, 1, 0, 4}, {0, 12, 41, 1, 1, 0, 4}, {1, 12, -30, 1, 1, 0, 4},
        {0, 12, 30, -1000001, 1, 0, 4}, {0, 12, 30, 1000001, 1, 0, 4},
        {0, 12, 30, 1, 0, 0, 0}, {0, 12, 30, 1, 1, 0, 1001}, {0, 12, 30, 1, 0, 0, -1}, {0, 12, 30, 1, 1, 0, -4},
        {0, 12, 30, 1, -1, 0, 4}, {0, 12, 30, 1, 5, 0, 4}, {1, 12, 30, 1, 2, 0, 1},
        {0, 12, 30, 1, 1, -1, 4}, {0, 12, 30, 1, 1, 4, 4}, {1, 12, 30, 1, 1, 1, 1},
        {0, Integer.MIN_VALUE, 30, 1, 1, 0, 4}, {0, 12, Integer.MAX_VALUE, 1, 1, 0, 4},
        {0, 12, 30, Integer.MIN_VALUE, 1, 0, 4}, {0, 12, 30, 1, Integer.MIN_VALUE, Integer.MIN_VALUE, Integer.MIN_VALUE},
    };

    private static final int[][] TAKEN = {
        {0, 1, 1, -1000000, 0, 0, 1}, {0, 20, 40, 1000000, 1000, 999, 1000}, {1, 20, 1, 0, 1, 0, 1},
        {1, 1, 40, 0, 0, 999, 1000}, {0, 12, 30, 1, 4, 3, 4},
    };

    public static void main(String[] args) {
        Check check = new Check();
        ordinary(check);
        for (int[] p : REFUSED) {
            DayBook book = new DayBook();
            check.dueThrow("plug of " + java.util.Arrays.toString(p), ARGUMENT, () -> plug(book, p));
            check.due("it changes nothing", book.plug(p[0], 1, 1, 1, 0, 0, 1), false);
        }
        for (int[] p : TAKEN) {
            DayBook book = new DayBook();
            check.due("plug of " + java.util.Arrays.toString(p), plug(book, p), 0);
            check.due("once more", plug(book, p), 1);
        }
        for (int k : new int[] {-1, 2, 12, Integer.MAX_VALUE, Integer.MIN_VALUE}) {
            check.dueThrow("plug(" + k + ")", PLACE, () -> plug(new DayBook(), k, 12, 30, 1, 1, 0, 4));
            check.dueThrow("the place first", PLACE, () -> plug(new DayBook(), k, 99, 99, 1, 1, 0, 4));
        }
        check.end();
    }

    private static void ordinary(Check check) {
        DayBook book = new DayBook();
        check.due("a first one", book.plug(0, 13, 28, 1, 1, 0, 4), false);
        check.due("its year 4 is leap", book.leap(12, 4), true);
        check.due("its year 0 is leap", book.leap(12, 0), true);
        check.due("its year 5 is not", book.leap(12, 5), false);
        check.due("the last month is longer", book.fixed(12, 4, 13, 29), 4 * 364 + 1);
        check.dueThrow("but in leap years alone", ARGUMENT, () -> book.fixed(12, 5, 13, 29));
        check.dueThrow("no other month is", ARGUMENT, () -> book.fixed(12, 4, 12, 29));
        check.due("the year behind it", book.fixed(12, 5, 1, 1), 4 * 364 + 2);
        check.due("the other one is not there yet", book.plug(1, 2, 3, 100, 0, 0, 1), false);
        check.due("the first is still there", book.date(12, 1, 0), 1);
        check.due("the epoch of the other", book.fixed(13, 1, 1, 1), 100);
        check.dueThrow("plug wrongly", ARGUMENT, () -> plug(book, 0, 12, 30, 1, 1, 4, 4));
        check.due("the first stays as it was", book.fixed(12, 5, 1, 1), 4 * 364 + 2);
        check.due("another in its place", book.plug(0, 10, 10, 7, 2, 1, 2), true);
        check.due("which is there now", book.fixed(12, 2, 1, 1), 7 + 101);
        check.due("and every year leap", book.fixed(12, 0, 10, 11), 6);
        check.due("the other once more", book.plug(1, 2, 3, 101, 0, 0, 1), true);
    }

    private static int plug(DayBook book, int... p) {
        return book.plug(p[0], p[1], p[2], p[3], p[4], p[5], p[6]) ? 1 : 0;
    }
}

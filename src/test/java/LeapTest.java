/** Promise 5: leap. WalkTest looks at every year. */
public final class LeapTest {
    private static final int[][] LEAP = {
        {0, 2000}, {0, 0}, {0, -4}, {0, -400}, {1, 1900}, {1, -1}, {1, -5}, {3, 3}, {3, -1}, {4, 2019}, {5, 2}, {5, 29},
        {6, 1404}, {6, 1408}, {7, 4}, {7, 400}, {7, -4}, {8, 0}, {8, 156}, {8, -1844}, {9, 5787}, {9, 0},
    };
    private static final int[][] PLAIN = {
        {0, 1900}, {0, 2026}, {0, -1}, {0, -100}, {1, -4}, {1, 1}, {1, -2}, {3, 4}, {3, 0}, {4, 2020}, {5, 1}, {5, 30},
        {6, 1403}, {7, 100}, {7, 3}, {7, 4000}, {7, 0}, {7, -4000}, {8, 1}, {8, 56}, {9, 5786}, {9, 1},
    };

    public static void main(String[] args) {
        Check check = new Check();
        DayBook book = new DayBook();
        for (int[] row : LEAP) {
            check.due("leap(" + row[0] + ", " + row[1] + ")", book.leap(row[0], row[1]), true);
        }
        for (int[] row : PLAIN) {
            check.due("leap(" + row[0] + ", " + row[1] + ")", book.leap(row[0], row[1]), false);
        }
        own(check);
        wrongInputs(check);
        check.end();
    }

    private static void own(Check check) {
        DayBook book = new DayBook();
        book.plug(0, 12, 30, 1, 0, 0, 7);
        book.plug(1, 12, 30, 1, 7, 6, 7);
        for (int year = -100000; year <= 100000; year += 4001) {
            check.due("never, " + year, book.leap(12, year), false);
            check.due("always, " + year, book.leap(13, year), true);
        }
        check.due("never, 0", book.leap(12, 0), false);
        check.due("always, 0", book.leap(13, 0), true);
        book.plug(0, 12, 30, 1, 2, 3, 5);
        for (int i = 0; i <= 5; i++) {
            check.due("2 in 5, " + i, book.leap(12, i), Model.mod(2 * i + 3, 5) < 2);
            check.due("2 in 5, " + (i - 5), book.leap(12, i - 5), book.leap(12, i));
        }
        check.due("year 1", book.leap(12, 1), true);
        check.due("year 4", book.leap(12, 4), true);
        check.due("year 2", book.leap(12, 2), false);
    }

    private static void wrongInputs(Check check) {
        DayBook book = new DayBook();
        for (int calendar : new int[] {2, 10, 11}) {
            for (int year : new int[] {0, 1, 100001, Integer.MIN_VALUE}) {
                throwsOf(check, book, calendar, year, UnsupportedOperationException.class);
            }
        }
        for (int calendar : new int[] {-1, 12, 13, 14, Integer.MIN_VALUE, Integer.MAX_VALUE}) {
            for (int year : new int[] {0, 1, 100001}) {
                throwsOf(check, book, calendar, year, IndexOutOfBoundsException.class);
            }
        }
        for (int calendar : new int[] {0, 1, 3, 4, 5, 6, 7, 8, 9}) {
            for (int year : new int[] {-100001, 100001, Integer.MIN_VALUE, Integer.MAX_VALUE}) {
                throwsOf(check, book, calendar, year, ArithmeticException.class);
            }
            check.due("year 100000 of " + calendar, book.leap(calendar, 100000), new Model(calendar).leap(100000));
            check.due("year -100000 of " + calendar, book.leap(calendar, -100000), new Model(calendar).leap(-100000));
        }
        throwsOf(check, book, 1, 0, IllegalArgumentException.class);
        throwsOf(check, book, 6, 0, IllegalArgumentException.class);
    }

    private static void throwsOf(Check check, DayBook book, int calendar, int year,
            Class<? extends RuntimeException> want) {
        check.dueThrow("leap(" + calendar + ", " + year + ")", want, () -> book.leap(calendar, year) ? 1 : 0);
    }
}

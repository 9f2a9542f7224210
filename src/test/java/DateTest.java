import java.time.LocalDate;
import java.time.temporal.IsoFields;

/** Promise 3: date. WalkTest looks at whole calendars. */
public final class DateTest {
    private static final long EPOCH_DAY_OF_0 = LocalDate.of(1, 1, 1).toEpochDay() - 1;

    /** Days with their dates in the calendars 0 to 11, as tables of calendars tell them. */
    private static final int[][] KNOWN = {
        {-214193, -586, 7, 24, -587, 7, 30, -586, 29, 7, -870, 12, 6, -594, 12, 6, -1245, 12, 9, -1208, 5, 1},
        {-61387, -168, 12, 5, -169, 12, 8, -168, 49, 3, -451, 4, 12, -175, 4, 12, -813, 2, 23, -790, 9, 14},
        {25469, 70, 9, 24, 70, 9, 26, 70, 39, 3, -213, 1, 29, 63, 1, 29, -568, 4, 1, -552, 7, 2},
        {710347, 1945, 11, 12, 1945, 10, 30, 1945, 46, 1, 1662, 3, 3, 1938, 3, 3, 1364, 12, 6, 1324, 8, 21},
    };

    private static final int[][] KNOWN_9_TO_11 = {
        {-214193, 3174, 5, 10, 2515, 5, 19, 2515, 6, 11},
        {-61387, 3593, 9, 25, 2933, 9, 26, 2933, 9, 26},
        {25469, 3831, 7, 3, 3171, 7, 11, 3171, 8, 3},
        {710347, 5706, 9, 7, 5046, 7, 29, 5046, 8, 8},
    };

    private final Check check = new Check();
    private final Books books = new Books(new int[] {0, 1, 1, 1000000, 0, 0, 1}, new int[] {1, 1, 1, -1000000, 0, 0, 1});

    public static void main(String[] args) {
        DateTest test = new DateTest();
        for (int[] row : KNOWN) {
            for (int calendar = 0; calendar <= 6; calendar++) {
                test.one(calendar, row[0], row[3 * calendar + 1], row[3 * calendar + 2], row[3 * calendar + 3]);
            }
        }
        for (int[] row : KNOWN_9_TO_11) {
            for (int calendar = 9; calendar <= 11; calendar++) {
                int i = 3 * (calendar - 9) + 1;
                test.one(calendar, row[0], row[i], row[i + 1], row[i + 2]);
            }
        }
        test.edges();
        for (int d = -40000000; d <= 40000000; d += 997) {
            test.againstJava(d);
            test.againstFormulas(d);
        }
        for (int d = -2000000; d <= 2000000; d += 13) {
            test.againstFormulas(d);
        }
        test.againstJava(40000000);
        test.againstFormulas(40000000);
        test.wrongInputs();
        test.check.end();
    }

    private void edges() {
        one(0, 1, 1, 1, 1);
        one(0, 0, 0, 12, 31);
        one(1, -1, 1, 1, 1);
        one(1, -2, -1, 12, 31);
        one(1, -367, -1, 1, 1);
        one(1, -368, -2, 12, 31);
        one(6, 226896, 1, 1, 1);
        check.due("the year before year 1 in 6", books.next().date(6, 226895, 0), -1);
        one(7, 654415, 1, 1, 1);
        one(8, 673222, 1, 1, 1);
        one(8, 673222 - 19, 0, 19, 1);
        one(8, 673222 - 20, 0, 0, 5);
        one(9, Model.start9(0), 0, 7, 1);
        one(12, 40000000, 40000000 - 1000000 + 1, 1, 1);
        one(12, -40000000, -40000000 - 1000000 + 1, 1, 1);
        one(13, 40000000, 40000000 + 1000000 + 1, 1, 1);
    }

    private void againstJava(int d) {
        LocalDate date = LocalDate.ofEpochDay(EPOCH_DAY_OF_0 + d);
        one(0, d, date.getYear(), date.getMonthValue(), date.getDayOfMonth());
        one(2, d, date.get(IsoFields.WEEK_BASED_YEAR), date.get(IsoFields.WEEK_OF_WEEK_BASED_YEAR),
            date.getDayOfWeek().getValue());
    }

    private void againstFormulas(int d) {
        long[] solar = Model.date10(d);
        one(10, d, solar[0], solar[1], solar[2]);
        long[] lunar = Model.date11(d);
        one(11, d, lunar[0], lunar[1], lunar[2]);
    }

    private void one(int calendar, long day, long year, long month, long dayOfMonth) {
        int d = (int) day;
        check.due("date(" + calendar + ", " + d + ", 0)", books.next().date(calendar, d, 0), year);
        check.due("date(" + calendar + ", " + d + ", 1)", books.next().date(calendar, d, 1), month);
        check.due("date(" + calendar + ", " + d + ", 2)", books.next().date(calendar, d, 2), dayOfMonth);
    }

    private void wrongInputs() {
        DayBook book = new DayBook();
        for (int calendar : new int[] {-1, 12, 13, 14, Integer.MIN_VALUE, Integer.MAX_VALUE}) {
            throwsOf(book, calendar, 1, 0, IndexOutOfBoundsException.class);
            throwsOf(book, calendar, 40000001, 0, IndexOutOfBoundsException.class);
        }
        for (int calendar = 0; calendar < 12; calendar++) {
            for (int which : new int[] {-1, 3, Integer.MIN_VALUE, Integer.MAX_VALUE}) {
                throwsOf(book, calendar, 1, which, IndexOutOfBoundsException.class);
                throwsOf(book, calendar, 40000001, which, IndexOutOfBoundsException.class);
            }
            for (int d : new int[] {-40000001, 40000001, Integer.MIN_VALUE, Integer.MAX_VALUE}) {
                throwsOf(book, calendar, d, 2, ArithmeticException.class);
            }
        }
    }

    private void throwsOf(DayBook book, int calendar, int d, int which, Class<? extends RuntimeException> want) {
        check.dueThrow("date(" + calendar + ", " + d + ", " + which + ")", want, () -> book.date(calendar, d, which));
    }
}

import java.time.LocalDate;
import java.time.temporal.IsoFields;

/** Promise 3: date. WalkTest looks at whole calendars. */
public final class DateTest extends Promise {
    private static final long EPOCH_DAY_OF_0 = LocalDate.of(1, 1, 1).toEpochDay() - 1;

    /** Days with their dates in the calendars 0 to 11, as tables of calendars tell them. */
    private static final int[][] KNOWN = {
        {-214193, -586, 7, 24, -587, 7, 30, -586, 29, 7, -870, 12, 6, -594, 12, 6, -1245, 12, 9, -1208, 5, 1},
        {-61387, -168, 12, 5, -169, 12, 8, -168, 49, 3, -451, 4, 12, -175, 4, 12, -813, 2, 23, -790, 9, 14},
        {25469, 70, 9, 24, 70, 9, 26, 70, 39, 3, -213, 1, 29, 63, 1, 29, -568, 4, 1, -552, 7, 2},
        {710347, 1945, 11, 12, 1945, 10, 30, 1945, 46, 1, 1662, 3, 3, 1938, 3, 3, 1364, 12, 6, 1324, 8, 21},
    };

    private static final int[][] KNOWN_9_TO_11 = {
        {-214193, 3174, 5, 10, 2515, 5, 19, 2515, 6, 11},
        {-61387, 3593, 9, 25, 2933, 9, 26, 2933, 9, 26},
        {25469, 3831, 7, 3, 3171, 7, 11, 3171, 8, 3},
        {710347, 5706, 9, 7, 5046, 7, 29, 5046, 8, 8},
    };

    /** The dates of the range's first day and of its last in the calendars 0 to 11. */
    private static final int[][] ENDS = {
        {-109516, 9, 19, 109517, 4, 13}, {-109515, 12, 22, 109515, 1, 14}, {-109516, 38, 2, 109517, 15, 5},
        {-109797, 4, 26, 109231, 5, 19}, {-109521, 4, 26, 109507, 5, 19}, {-113518, 12, 11, 112237, 10, 23},
        {-110138, 5, 27, 108896, 2, 25}, {-111308, 12, 6, 107725, 8, 19}, {-111359, 10, 12, 107674, 2, 5},
        {-105754, 11, 6, 113276, 11, 2}, {-106410, 5, 14, 112613, 3, 23}, {-106410, 5, 19, 112613, 4, 19},
    };

    private DateTest() {
        super(new int[] {0, 1, 1, 1000000, 0, 0, 1}, new int[] {1, 1, 1, -1000000, 0, 0, 1});
    }

    public static void main(String[] args) {
        DateTest test = new DateTest();
        test.dates();
        test.edges();
        test.manyDays();
        test.calendar();
        test.which();
        test.range();
        test.firstNamedFirst();
        test.check.end();
    }

    private void dates() {
        check.says("The year (which 0), month (1) or day (2) of day d's date in a calendar");
        for (int[] row : KNOWN) {
            for (int calendar = 0; calendar <= 6; calendar++) {
                one(calendar, row[0], row[3 * calendar + 1], row[3 * calendar + 2], row[3 * calendar + 3]);
            }
        }
        for (int[] row : KNOWN_9_TO_11) {
            for (int calendar = 9; calendar <= 11; calendar++) {
                int i = 3 * (calendar - 9) + 1;
                one(calendar, row[0], row[i], row[i + 1], row[i + 2]);
            }
        }
    }

    private void manyDays() {
        check.says("The year, month or day of many days' dates");
        for (int d = -LAST_DAY; d <= LAST_DAY; d += 997) {
            againstJava(d);
            againstFormulas(d);
        }
        for (int d = -2000000; d <= 2000000; d += 13) {
            againstFormulas(d);
        }
        againstJava(LAST_DAY);
        againstFormulas(LAST_DAY);
    }

    private void edges() {
        check.says("The year, month or day at a calendar's beginning");
        one(0, 1, 1, 1, 1);
        one(0, 0, 0, 12, 31);
        one(1, -1, 1, 1, 1);
        one(1, -2, -1, 12, 31);
        one(1, -367, -1, 1, 1);
        one(1, -368, -2, 12, 31);
        one(6, 226896, 1, 1, 1);
        check.due("the year before year 1 in 6", books.next().date(6, 226895, 0), -1);
        one(7, 654415, 1, 1, 1);
        one(8, 673222, 1, 1, 1);
        one(8, 673222 - 19, 0, 19, 1);
        one(8, 673222 - 20, 0, 0, 5);
        one(9, Model.start9(0), 0, 7, 1);
    }

    private void againstJava(int d) {
        LocalDate date = LocalDate.ofEpochDay(EPOCH_DAY_OF_0 + d);
        one(0, d, date.getYear(), date.getMonthValue(), date.getDayOfMonth());
        one(2, d, date.get(IsoFields.WEEK_BASED_YEAR), date.get(IsoFields.WEEK_OF_WEEK_BASED_YEAR),
            date.getDayOfWeek().getValue());
    }

    private void againstFormulas(int d) {
        long[] solar = Model.date10(d);
        one(10, d, solar[0], solar[1], solar[2]);
        long[] lunar = Model.date11(d);
        one(11, d, lunar[0], lunar[1], lunar[2]);
    }

    private void one(int calendar, long day, long year, long month, long dayOfMonth) {
        int d = (int) day;
        check.due("date(" + calendar + ", " + d + ", 0)", books.next().date(calendar, d, 0), year);
        check.due("date(" + calendar + ", " + d + ", 1)", books.next().date(calendar, d, 1), month);
        check.due("date(" + calendar + ", " + d + ", 2)", books.next().date(calendar, d, 2), dayOfMonth);
    }

    private void calendar() {
        check.says("IndexOutOfBoundsException if there is no such calendar");
        for (int calendar : NO_CALENDARS) {
            refused(PLACE, States.all(), calendar, 1, 0);
        }
        refused(PLACE, States.bare(), 12, 1, 0);
        refused(PLACE, States.bare(), 13, 1, 0);
        one(0, 739934, 2026, 11, 14);
        one(11, 739934, 5127, 8, 5);
        one(12, 1000000, 1, 1, 1);
        one(13, -1000000, 1, 1, 1);
    }

    private void which() {
        check.says("or which is not 0 .. 2");
        for (int calendar = 0; calendar <= 11; calendar++) {
            for (int which : new int[] {-1, 3, MIN, MAX}) {
                refused(PLACE, States.all(), calendar, 1, which);
            }
        }
        for (int calendar = 12; calendar <= 13; calendar++) {
            refused(PLACE, States.own(), calendar, 1, -1);
            refused(PLACE, States.own(), calendar, 1, 3);
        }
        one(0, 739934, 2026, 11, 14);
    }

    private void range() {
        check.says("ArithmeticException if d is not in the range");
        for (int calendar = 0; calendar <= 11; calendar++) {
            int[] ends = ENDS[calendar];
            one(calendar, -LAST_DAY, ends[0], ends[1], ends[2]);
            one(calendar, LAST_DAY, ends[3], ends[4], ends[5]);
            for (int d : OUT) {
                refused(NUMBER, States.all(), calendar, d, 0);
                refused(NUMBER, States.all(), calendar, d, 2);
            }
        }
        one(12, LAST_DAY, LAST_DAY - 1000000 + 1, 1, 1);
        one(12, -LAST_DAY, -LAST_DAY - 1000000 + 1, 1, 1);
        one(13, LAST_DAY, LAST_DAY + 1000000 + 1, 1, 1);
        one(13, -LAST_DAY, -LAST_DAY + 1000000 + 1, 1, 1);
        for (int d : OUT) {
            refused(NUMBER, States.own(), 12, d, 0);
            refused(NUMBER, States.own(), 13, d, 1);
        }
    }

    private void firstNamedFirst() {
        check.says("What a call that throws names first is tested first: date");
        for (int d : OUT) {
            refused(PLACE, States.all(), -1, d, 0);
            refused(PLACE, States.all(), 14, d, 0);
            refused(PLACE, States.bare(), 12, d, 0);
            refused(PLACE, States.bare(), 13, d, 0);
            refused(PLACE, States.all(), 0, d, -1);
            refused(PLACE, States.all(), 11, d, 3);
            refused(PLACE, States.own(), 12, d, 3);
        }
    }

    private void refused(Class<? extends RuntimeException> want, DayBook[] on, int calendar, int d, int which) {
        check.refused("date(" + calendar + ", " + d + ", " + which + ")", want, on,
            book -> book.date(calendar, d, which));
    }
}

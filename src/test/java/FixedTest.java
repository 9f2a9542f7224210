import java.util.HashMap;
import java.util.Map;

/** Promise 4: fixed. WalkTest looks at whole calendars. */
public final class FixedTest extends Promise {
    private static final int[] LONG_YEARS = {0, 20, 40, 1000000, 1000, 0, 1000};
    private static final int[] SHORT_YEARS = {1, 3, 4, -7, 3, 1, 5};

    /** The days that are 1/1/1 in each calendar. */
    private static final int[] FIRST = {
        1, -1, 1, 103605, 2796, 227015, 226896, 654415, 673222, -1373249, -1132593, -1132604, 1000000, -7};

    /** Calendar, year, month, day and the day's number, for the first and last days of the years -100000 and 100000. */
    private static final int[][] YEAR_ENDS = {
        {0, -100000, 1, 1, -36524615}, {0, -100000, 12, 31, -36524250},
        {0, 100000, 1, 1, 36523885}, {0, 100000, 12, 31, 36524250},
        {1, -100000, 1, 1, -36525001}, {1, -100000, 12, 31, -36524637},
        {1, 100000, 1, 1, 36524633}, {1, 100000, 12, 31, 36524998},
        {2, -100000, 1, 1, -36524613}, {2, -100000, 52, 7, -36524250},
        {2, 100000, 1, 1, 36523887}, {2, 100000, 52, 7, 36524250},
        {3, -100000, 1, 1, -36421760}, {3, -100000, 13, 5, -36421396},
        {3, 100000, 1, 1, 36628240}, {3, 100000, 13, 5, 36628604},
        {4, -100000, 1, 1, -36522569}, {4, -100000, 13, 5, -36522205},
        {4, 100000, 1, 1, 36527431}, {4, 100000, 13, 5, 36527795},
        {5, -100000, 1, 1, -35210006}, {5, -100000, 12, 29, -35209653},
        {5, 100000, 1, 1, 35663327}, {5, 100000, 12, 30, 35663681},
        {6, -100000, 1, 1, -36297324}, {6, -100000, 12, 29, -36296960},
        {6, 100000, 1, 1, 36750750}, {6, 100000, 12, 30, 36751115},
        {7, -100000, 1, 1, -35870175}, {7, -100000, 13, 5, -35869811},
        {7, 100000, 1, 1, 37178275}, {7, 100000, 13, 5, 37178639},
        {8, -100000, 1, 1, -35851394}, {8, -100000, 19, 19, -35851029},
        {8, 100000, 1, 1, 37197106}, {8, 100000, 19, 19, 37197471},
        {9, -100000, 7, 1, -37898489}, {9, -100000, 6, 29, -37898137},
        {9, 100000, 7, 1, 35150868}, {9, 100000, 6, 29, 35151252},
        {10, -100000, 1, 1, -37658827}, {10, -100000, 12, 30, -37658463},
        {10, 100000, 1, 1, 35392909}, {10, 100000, 12, 31, 35393274},
        {11, -100000, 1, 1, -37658833}, {11, -100000, 12, 30, -37658480},
        {11, 100000, 1, 1, 35392886}, {11, 100000, 12, 30, 35393269},
    };

    private FixedTest() {
        super(LONG_YEARS, SHORT_YEARS);
    }

    public static void main(String[] args) {
        FixedTest test = new FixedTest();
        test.dates();
        test.calendar();
        test.yearLimit();
        test.noSuchDate();
        test.range();
        test.firstNamedFirst();
        test.check.end();
    }

    private void dates() {
        check.says("The day with this date in a calendar");
        due(0, 2026, 11, 14, 739934);
        due(0, 1582, 10, 15, 577736);
        due(1, 1582, 10, 5, 577736);
        due(2, 2026, 53, 7, 739984);
        due(9, 5787, 7, 1, 739871);
        due(12, 1, 1, 1, 1000000);
        for (int calendar = 0; calendar <= 13; calendar++) {
            for (int d : new int[] {-35000000, -1132959 - 700, -1373427, -900, 226000, 739934, 34000000}) {
                everyDateNear(calendar, d);
            }
        }
    }

    private void calendar() {
        check.says("IndexOutOfBoundsException if there is no such calendar");
        for (int calendar : NO_CALENDARS) {
            refused(PLACE, States.all(), calendar, 1, 1, 1);
        }
        refused(PLACE, States.bare(), 12, 1, 1, 1);
        refused(PLACE, States.bare(), 13, 1, 1, 1);
        due(0, 1, 1, 1, 1);
        due(11, 5127, 1, 1, 739694);
        due(12, 1, 1, 1, 1000000);
        due(13, 1, 1, 1, -7);
    }

    private void yearLimit() {
        check.says("ArithmeticException if year is not -100000 .. 100000");
        for (int[] row : YEAR_ENDS) {
            due(row[0], row[1], row[2], row[3], row[4]);
        }
        for (int calendar = 0; calendar <= 13; calendar++) {
            DayBook[] on = calendar <= 11 ? States.all() : States.own();
            for (int year : new int[] {-100001, 100001, MIN, MAX}) {
                refused(NUMBER, on, calendar, year, calendar == 9 ? 7 : 1, 1);
            }
        }
        due(13, -100000, 1, 1, -1260020);
        due(13, 100000, 3, 5, 1259992);
    }

    private void noSuchDate() {
        check.says("IllegalArgumentException if there is no such date");
        for (int calendar = 0; calendar <= 13; calendar++) {
            DayBook[] on = calendar <= 11 ? States.all() : States.own();
            for (int wrong : new int[] {MIN, MIN + 1, -1, 114, 255, 256, 257, 65537, MAX}) {
                refused(ARGUMENT, on, calendar, 1, wrong, 1);
                refused(ARGUMENT, on, calendar, 1, 1, wrong);
            }
            refused(ARGUMENT, on, calendar, 1, 1, 0);
            refused(ARGUMENT, on, calendar, 1, 0, 257);
            refused(ARGUMENT, on, calendar, 1, 2, 1 - 256);
            refused(ARGUMENT, on, calendar, 1, MIN, MIN);
            due(calendar, 1, 1, 1, FIRST[calendar]);
        }
        refused(ARGUMENT, States.all(), 1, 0, 1, 1);
        refused(ARGUMENT, States.all(), 6, 0, 1, 1);
    }

    private void range() {
        check.says("ArithmeticException if its day is not in the range");
        // Every year of 12 has 801 days: 39000000 days behind the epoch are 48689 years and 111 days.
        due(12, 48690, 3, 32, 40000000);
        refused(NUMBER, LONG_YEARS, 48690, 3, 33);
        refused(NUMBER, LONG_YEARS, 100000, 20, 41);
        // 41000000 days before the epoch are 51187 years less 787 days.
        due(12, -51186, 20, 28, -40000000);
        refused(NUMBER, LONG_YEARS, -51186, 20, 27);
        refused(NUMBER, LONG_YEARS, -100000, 1, 1);
    }

    private void firstNamedFirst() {
        check.says("What a call that throws names first is tested first: fixed");
        for (int calendar : new int[] {-1, 14}) {
            refused(PLACE, States.all(), calendar, 100001, 1, 1);
            refused(PLACE, States.all(), calendar, -100001, 0, 0);
            refused(PLACE, States.all(), calendar, 1, 0, 0);
        }
        refused(PLACE, States.bare(), 12, 100001, 1, 1);
        refused(PLACE, States.bare(), 13, 1, 0, 0);
        for (int calendar = 0; calendar <= 11; calendar++) {
            refused(NUMBER, States.all(), calendar, 100001, 77, 1);
            refused(NUMBER, States.all(), calendar, -100001, 1, 0);
            refused(ARGUMENT, States.all(), calendar, 100000, 77, 1);
            refused(ARGUMENT, States.all(), calendar, -100000, 1, 0);
        }
        refused(NUMBER, LONG_YEARS, 100001, 20, 42);
        refused(NUMBER, LONG_YEARS, -100001, 0, 1);
        refused(ARGUMENT, LONG_YEARS, 100000, 20, 42);
        refused(ARGUMENT, LONG_YEARS, 100000, 21, 1);
        refused(ARGUMENT, LONG_YEARS, -100000, 0, 1);
        refused(ARGUMENT, LONG_YEARS, -100000, 1, 0);
        refused(ARGUMENT, LONG_YEARS, 48690, 3, 41);
    }

    /** In the years round a day, each date that a day has is that day's, and no other date is there. */
    private void everyDateNear(int calendar, int d) {
        int year = books.next().date(calendar, d, 0);
        if (Math.abs(year) >= 100000) {
            return;
        }
        Map<String, Integer> days = new HashMap<>();
        int back = calendar == 12 ? 1700 : 900;
        for (int i = d - back; i <= d + back; i++) {
            days.put(books.next().date(calendar, i, 0) + "/" + books.next().date(calendar, i, 1) + "/"
                + books.next().date(calendar, i, 2), i);
        }
        check.due("no date twice", days.size(), 2 * back + 1);
        boolean hasYear0 = calendar != 1 && calendar != 6;
        for (int y = year - 1; y <= year + 1; y++) {
            for (int m = -1; m <= 113; m++) {
                for (int day = 0; day <= 42; day++) {
                    Integer want = days.get(y + "/" + m + "/" + day);
                    if (want == null || y == 0 && !hasYear0) {
                        none(calendar, y, m, day);
                    } else {
                        due(calendar, y, m, day, want);
                    }
                }
            }
        }
    }

    private void due(int calendar, int year, int month, int day, int want) {
        check.due(told(calendar, year, month, day), books.next().fixed(calendar, year, month, day), want);
    }

    private void none(int calendar, int year, int month, int day) {
        check.dueThrow(told(calendar, year, month, day), ARGUMENT,
            () -> books.next().fixed(calendar, year, month, day));
    }

    private void refused(Class<? extends RuntimeException> want, DayBook[] on, int calendar, int... date) {
        check.refused(told(calendar, date[0], date[1], date[2]), want, on,
            book -> book.fixed(calendar, date[0], date[1], date[2]));
    }

    /** The same in calendar 12, plugged so. */
    private void refused(Class<? extends RuntimeException> want, int[] plug, int... date) {
        DayBook[] on = States.own();
        for (DayBook book : on) {
            book.plug(plug[0], plug[1], plug[2], plug[3], plug[4], plug[5], plug[6]);
        }
        refused(want, on, 12, date);
    }

    private static String told(int calendar, int year, int month, int day) {
        return "fixed(" + calendar + ", " + year + ", " + month + ", " + day + ")";
    }
}

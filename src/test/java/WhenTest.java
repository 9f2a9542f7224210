import java.util.ArrayList;
import java.util.HashMap;
import java.util.List;
import java.util.Map;

/** Promise 10: when. */
public final class WhenTest extends Promise {
    private static final int[] YEARS = {
        -90000, -44441, -3103, -622, -621, -1, 0, 1, 2, 622, 1792, 2023, 2024, 2030, 90000};

    /** Years of one day with the epoch at either end, always and never leap, and others. */
    private static final int[][] PLUGS = {
        {0, 1, 1, -1000000, 0, 0, 1}, {0, 1, 1, 1000000, 1, 0, 1}, {1, 2, 3, 77, 2, 1, 5}, {1, 20, 40, 0, 1, 0, 3},
    };

    /** The months and days of the first and the last days of the years -90000 and 90000 in the calendars 0 to 11. */
    private static final int[][] ENDS = {
        {1, 1, 12, 31, 1, 1, 12, 31}, {11, 8, 11, 8, 2, 27, 2, 27}, {52, 6, 52, 7, 52, 6, 52, 7},
        {3, 12, 3, 12, 7, 3, 7, 3}, {3, 12, 3, 12, 7, 3, 7, 3}, {3, 1, 3, 12, 7, 12, 7, 22},
        {9, 13, 9, 13, 11, 7, 11, 7}, {3, 19, 3, 18, 5, 4, 5, 3}, {16, 2, 16, 1, 16, 2, 16, 1},
        {11, 15, 11, 27, 9, 30, 10, 10}, {10, 14, 10, 14, 10, 24, 10, 23}, {11, 3, 111, 14, 11, 14, 10, 25},
    };

    public static void main(String[] args) {
        WhenTest test = new WhenTest();
        test.dayOfTheYear();
        test.firstAndLastDay();
        test.counted();
        test.notSoMany();
        test.noSuchMonthOrDay();
        test.calendar();
        test.yearLimit();
        test.firstNamedFirst();
        test.everyDay();
        test.check.end();
    }

    private void dayOfTheYear() {
        check.says("The k-th day of a year of calendar 0 that has this month and day in a calendar");
        due(0, 2, 29, 2024, 0, 738945);
        due(8, 0, 4, 2024, 0, 738945);
        due(8, 0, 5, 2024, 0, 738946);
        due(3, 13, 6, 2027, 0, 740235);
        due(11, 102, 1, 2026, 0, 739723);
        due(1, 12, 31, 0, 0, -2);
        due(1, 1, 1, 0, 0, -1);
    }

    private void firstAndLastDay() {
        check.says("The k-th day of a year: 1 January, 31 December, and the days beside the year");
        due(0, 1, 1, 2026, 0, 739617);
        due(0, 12, 31, 2026, 0, 739981);
        due(1, 12, 19, 2026, 0, 739617);
        due(1, 12, 19, 2026, 1, NONE);
        due(1, 12, 18, 2026, 0, 739981);
        due(2, 53, 4, 2026, 0, 739981);
        due(2, 53, 7, 2026, 0, NONE);
        due(2, 53, 7, 2027, 0, 739984);
        due(5, 7, 22, 2026, 0, 739627);
        due(5, 7, 22, 2026, 1, NONE);
        due(5, 7, 22, 2027, 0, 739982);
        due(5, 7, 22, 2027, 1, 740336);
    }

    private void counted() {
        check.says("counted from 0");
        due(5, 9, 1, 2030, 0, 741083);
        due(5, 9, 1, 2030, 1, 741437);
        due(2, 1, 1, 2024, 0, 738886);
        due(2, 1, 1, 2024, 1, 739250);
        due(2, 1, 1, 2025, 0, 739614);
        books = new Books(PLUGS[0]);
        for (int k = 0; k <= 364; k++) {
            due(12, 1, 1, 2026, k, 739617 + k);
        }
        due(12, 1, 1, 2024, 365, 739251);
        books = new Books();
    }

    private void notSoMany() {
        check.says("NONE if there are not so many");
        none(0, 1, 1, 2026, 1);
        none(0, 1, 1, 2026, MAX);
        none(5, 9, 1, 2030, 2);
        none(2, 1, 1, 2024, 2);
        none(2, 1, 1, 2025, 1);
        none(2, 1, 1, 2026, 0);
        none(0, 2, 29, 2024, 1);
        none(3, 13, 6, 2026, 0);
        none(9, 10, 8, 2000, 0);
        none(9, 13, 1, 2001, 0);
        none(10, 9, 17, 2001, 0);
        none(11, 8, 20, 2026, 0);
        books = new Books(PLUGS[0]);
        due(12, 1, 1, 2026, 365, NONE);
        due(12, 1, 1, 2024, 366, NONE);
        due(12, 1, 1, 2024, -1, NONE);
        books = new Books();
        check.says("counted from 0: a k below it");
        none(0, 1, 1, 2026, -1);
        none(0, 1, 1, 2026, MIN);
        none(2, 1, 1, 2026, -1);
    }

    private void noSuchMonthOrDay() {
        check.says("NONE if there are not so many: a month or day that no date has");
        for (int calendar = 0; calendar <= 11; calendar++) {
            for (int wrong : new int[] {MIN, -1, 114, 257, MAX}) {
                none(calendar, wrong, 1, 2026, 0);
                none(calendar, 1, wrong, 2026, 0);
            }
            none(calendar, 1, 0, 2026, 0);
        }
        none(0, 0, 1, 2026, 0);
        none(0, 13, 1, 2026, 0);
        none(0, 1, 32, 2026, 0);
        none(0, 2, 29, 2026, 0);
        none(0, 4, 31, 2026, 0);
        none(2, 54, 1, 2026, 0);
        none(2, 53, 8, 2026, 0);
        none(8, 0, 5, 2026, 0);
        none(8, 20, 1, 2026, 0);
        none(9, 7, 31, 2026, 0);
        none(11, 103, 1, 2026, 0);
        none(11, 1, 31, 2026, 0);
    }

    private void calendar() {
        check.says("IndexOutOfBoundsException if there is no such calendar");
        for (int calendar : NO_CALENDARS) {
            refused(PLACE, States.all(), calendar, 1, 1, 2026, 0);
        }
        refused(PLACE, States.bare(), 12, 1, 1, 2026, 0);
        refused(PLACE, States.bare(), 13, 1, 1, 2026, 0);
        due(0, 1, 1, 2026, 0, 739617);
        due(11, 1, 1, 2026, 0, 739694);
        check.due("when of 12", States.own()[0].when(12, 1, 1, 1, 0), 1);
        check.due("when of 13", States.own()[0].when(13, 1, 1, 1, 0), 1);
    }

    private void yearLimit() {
        check.says("ArithmeticException if year is not -90000 .. 90000");
        for (int calendar = 0; calendar <= 11; calendar++) {
            int[] ends = ENDS[calendar];
            due(calendar, ends[0], ends[1], -90000, 0, -32872190);
            due(calendar, ends[4], ends[5], 90000, 0, 32871460);
            last(calendar, ends[2], ends[3], -90000, -32871825);
            last(calendar, ends[6], ends[7], 90000, 32871825);
            for (int year : new int[] {-90001, 90001, MIN, MAX}) {
                refused(NUMBER, States.all(), calendar, 1, 1, year, 0);
            }
        }
        for (int calendar = 12; calendar <= 13; calendar++) {
            refused(NUMBER, States.own(), calendar, 1, 1, -90001, 0);
            refused(NUMBER, States.own(), calendar, 1, 1, 90001, 0);
        }
    }

    private void firstNamedFirst() {
        check.says("What a call that throws names first is tested first: when");
        for (int year : new int[] {-90001, 90001, MIN, MAX}) {
            refused(PLACE, States.all(), -1, 1, 1, year, 0);
            refused(PLACE, States.all(), 14, 0, 0, year, -1);
            refused(PLACE, States.bare(), 12, 1, 1, year, 0);
            refused(PLACE, States.bare(), 13, 0, 0, year, 0);
            refused(NUMBER, States.all(), 0, 0, 0, year, -1);
        }
    }

    private void everyDay() {
        check.says("The k-th day: every day of some years");
        for (int calendar = 0; calendar <= 11; calendar++) {
            for (int year : YEARS) {
                everyDay(calendar, year);
            }
        }
        for (int[] plug : PLUGS) {
            books = new Books(plug);
            for (int year : YEARS) {
                everyDay(12 + plug[0], year);
            }
        }
    }

    /** Goes through the days of a year of calendar 0 one by one. */
    private void everyDay(int calendar, int year) {
        int first = books.next().fixed(0, year, 1, 1);
        int last = books.next().fixed(0, year, 12, 31);
        Map<Integer, List<Integer>> days = new HashMap<>();
        for (int d = first; d <= last; d++) {
            int key = 100 * books.next().date(calendar, d, 1) + books.next().date(calendar, d, 2);
            days.computeIfAbsent(key, k -> new ArrayList<>()).add(d);
        }
        for (int month = -1; month <= 113; month++) {
            for (int day = 0; day <= 42; day++) {
                List<Integer> want = days.getOrDefault(100 * month + day, List.of());
                for (int k = -1; k <= want.size() + 1; k++) {
                    due(calendar, month, day, year, k, k < 0 || k >= want.size() ? NONE : want.get(k));
                }
            }
        }
    }

    /** The last of the days with this month and day, be it the first or the second of them. */
    private void last(int calendar, int month, int day, int year, int want) {
        int k = books.next().when(calendar, month, day, year, 1) == NONE ? 0 : 1;
        due(calendar, month, day, year, k, want);
        due(calendar, month, day, year, k + 1, NONE);
    }

    private void due(int calendar, int month, int day, int year, int k, int want) {
        check.due(told(calendar, month, day, year, k), books.next().when(calendar, month, day, year, k), want);
    }

    private void none(int calendar, int month, int day, int year, int k) {
        check.unchanged(told(calendar, month, day, year, k), NONE, States.all(),
            book -> book.when(calendar, month, day, year, k));
    }

    private void refused(Class<? extends RuntimeException> want, DayBook[] on, int calendar, int... a) {
        check.refused(told(calendar, a[0], a[1], a[2], a[3]), want, on,
            book -> book.when(calendar, a[0], a[1], a[2], a[3]));
    }

    private static String told(int calendar, int month, int day, int year, int k) {
        return "when(" + calendar + ", " + month + ", " + day + ", " + year + ", " + k + ")";
    }
}

import java.util.ArrayList;
import java.util.HashMap;
import java.util.List;
import java.util.Map;

/** Promise 10: when. */
public final class WhenTest {
    private static final int[] YEARS = {-90000, -44441, -3103, -622, -621, -1, 0, 1, 2, 622, 1792, 2023, 2024, 2030, 90000};

    private final Check check = new Check();
    private final Books books;

    private WhenTest(int[]... plugs) {
        books = new Books(plugs);
    }

    public static void main(String[] args) {
        everyDay(new WhenTest(new int[] {0, 1, 1, -1000000, 0, 0, 1}, new int[] {1, 2, 3, 77, 2, 1, 5}), 0, 13);
        everyDay(new WhenTest(new int[] {0, 1, 1, 1000000, 1, 0, 1}, new int[] {1, 20, 40, 0, 1, 0, 3}), 12, 13);
        WhenTest test = new WhenTest();
        test.due(5, 9, 1, 2030, 0, 741083);
        test.due(5, 9, 1, 2030, 1, 741437);
        test.due(8, 0, 5, 2024, 0, test.books.next().fixed(0, 2024, 3, 1));
        test.due(8, 0, 5, 2023, 0, DayBook.NONE);
        test.due(8, 0, 4, 2024, 0, test.books.next().fixed(0, 2024, 2, 29));
        test.due(0, 2, 29, 2024, 0, test.books.next().fixed(0, 2024, 2, 29));
        test.due(0, 2, 29, 2024, 1, DayBook.NONE);
        test.due(0, 2, 29, 2023, 0, DayBook.NONE);
        test.due(1, 12, 31, 0, 0, -2);
        test.wrongInputs();
        test.check.end();
    }

    private static void everyDay(WhenTest test, int from, int to) {
        for (int calendar = from; calendar <= to; calendar++) {
            for (int year : YEARS) {
                test.everyDay(calendar, year);
            }
        }
        test.check.end();
    }

    /** Goes through the days of a year of calendar 0 one by one. */
    private void everyDay(int calendar, int year) {
        int first = books.next().fixed(0, year, 1, 1);
        int last = books.next().fixed(0, year, 12, 31);
        Map<Integer, List<Integer>> days = new HashMap<>();
        for (int d = first; d <= last; d++) {
            int key = 100 * books.next().date(calendar, d, 1) + books.next().date(calendar, d, 2);
            days.computeIfAbsent(key, k -> new ArrayList<>()).add(d);
        }
        for (int month = -1; month <= 113; month++) {
            for (int day = 0; day <= 42; day++) {
                List<Integer> want = days.getOrDefault(100 * month + day, List.of());
                for (int k = -1; k <= want.size() + 1; k++) {
                    due(calendar, month, day, year, k, k < 0 || k >= want.size() ? DayBook.NONE : want.get(k));
                }
            }
        }
    }

    private void wrongInputs() {
        for (int calendar : new int[] {-1, 12, 13, 14, Integer.MIN_VALUE, Integer.MAX_VALUE}) {
            throwsOf(calendar, 2026, IndexOutOfBoundsException.class);
            throwsOf(calendar, 90001, IndexOutOfBoundsException.class);
        }
        for (int calendar = 0; calendar <= 11; calendar++) {
            for (int year : new int[] {-90001, 90001, Integer.MIN_VALUE, Integer.MAX_VALUE}) {
                throwsOf(calendar, year, ArithmeticException.class);
            }
            for (int wrong : new int[] {Integer.MIN_VALUE, Integer.MAX_VALUE, 257}) {
                due(calendar, wrong, 1, 2026, 0, DayBook.NONE);
                due(calendar, 1, wrong, 2026, 0, DayBook.NONE);
                due(calendar, 1, 1, 2026, wrong, DayBook.NONE);
            }
        }
    }

    private void due(int calendar, int month, int day, int year, int k, int want) {
        check.due("when(" + calendar + ", " + month + ", " + day + ", " + year + ", " + k + ")",
            books.next().when(calendar, month, day, year, k), want);
    }

    private void throwsOf(int calendar, int year, Class<? extends RuntimeException> want) {
        check.dueThrow("when(" + calendar + ", 1, 1, " + year + ", 0)", want,
            () -> books.next().when(calendar, 1, 1, year, 0));
    }
}

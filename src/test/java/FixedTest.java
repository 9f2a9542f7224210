import java.util.HashMap;
import java.util.Map;

/** Promise 4: fixed. WalkTest looks at whole calendars. */
public final class FixedTest {
    private static final Class<? extends RuntimeException> PLACE = IndexOutOfBoundsException.class;
    private static final Class<? extends RuntimeException> ARGUMENT = IllegalArgumentException.class;
    private static final Class<? extends RuntimeException> NUMBER = ArithmeticException.class;

    private final Check check = new Check();
    private final Books books = new Books(new int[] {0, 20, 40, 1000000, 1000, 0, 1000}, new int[] {1, 3, 4, -7, 3, 1, 5});

    public static void main(String[] args) {
        FixedTest test = new FixedTest();
        test.edges();
        test.ends();
        test.wrongInputs();
        for (int calendar = 0; calendar <= 13; calendar++) {
            for (int d : new int[] {-35000000, -1132959 - 700, -1373427, -900, 226000, 739934, 34000000}) {
                test.everyDateNear(calendar, d);
            }
        }
        test.check.end();
    }

    private void edges() {
        due(0, 1, 1, 1, 1);
        due(0, 0, 12, 31, 0);
        due(0, 2000, 2, 29, 730179);
        none(0, 1900, 2, 29);
        due(0, -4, 2, 29, -1767);
        none(0, -100, 2, 29);
        due(1, 1, 1, 1, -1);
        due(1, -1, 12, 31, -2);
        due(1, 1582, 10, 5, 577736);
        due(0, 1582, 10, 15, 577736);
        none(1, 0, 1, 1);
        none(1, -4, 2, 29);
        none(6, 0, 1, 1);
        due(8, 1, 0, 4, 673222 + 18 * 19 + 3);
        none(8, 1, 0, 5);
        none(8, 1, 20, 1);
        none(8, 1, -1, 1);
        due(8, 1, 19, 19, 673222 + 364);
        none(9, 5786, 13, 1);
        due(9, 5787, 7, 1, 739871);
        due(9, 5787, 13, 29, 740078);
        none(9, 5787, 0, 1);
        none(9, 5787, 14, 1);
        none(10, 5127, 0, 1);
        none(10, 5127, 13, 1);
        none(11, 5127, 100, 1);
        none(11, 5127, 113, 1);
        none(11, 5127, 13, 1);
        none(11, 5127, -99, 1);
        none(11, 5127, 8, 31);
        // Numbers that are such a month or day but for their higher bits.
        for (int calendar = 0; calendar <= 13; calendar++) {
            due(calendar, 1, 1, 1, books.next().fixed(calendar, 1, 1, 1));
            none(calendar, 1, 1 + 256, 1);
            none(calendar, 1, 1, 1 + 256);
            none(calendar, 1, 0, 257);
            none(calendar, 1, 2, 1 - 256);
            none(calendar, 1, Integer.MIN_VALUE + 1, 1);
            none(calendar, 1, 1, Integer.MAX_VALUE);
            none(calendar, 1, Integer.MIN_VALUE, Integer.MIN_VALUE);
        }
    }

    private void ends() {
        for (int calendar = 0; calendar <= 11; calendar++) {
            int month = calendar == 9 ? 7 : 1;
            for (int year = -100000; year <= 100000; year += 200000) {
                int d = books.next().fixed(calendar, year, month, 1);
                check.due("year again", books.next().date(calendar, d, 0), year);
                check.due("month again", books.next().date(calendar, d, 1), month);
                check.due("day again", books.next().date(calendar, d, 2), 1);
            }
        }
        due(12, 1, 1, 1, 1000000);
        // Every year has 801 days: 39000000 days behind the epoch are 48689 years and 111 days.
        due(12, 48690, 3, 32, 40000000);
        throwsOf(NUMBER, 12, 48690, 3, 33);
        throwsOf(NUMBER, 12, 100000, 20, 41);
        none(12, 100000, 20, 42);
        throwsOf(NUMBER, 12, -100000, 1, 1);
        none(12, -100000, 0, 1);
        // 41000000 days before the epoch are 51187 years less 787 days.
        due(12, -51186, 20, 28, -40000000);
        throwsOf(NUMBER, 12, -51186, 20, 27);
    }

    private void wrongInputs() {
        for (int calendar : new int[] {-1, 14, Integer.MIN_VALUE, Integer.MAX_VALUE}) {
            throwsOf(PLACE, calendar, 1, 1, 1);
            throwsOf(PLACE, calendar, 100001, 77, 1);
        }
        for (int calendar = 0; calendar <= 13; calendar++) {
            for (int year : new int[] {-100001, 100001, Integer.MIN_VALUE, Integer.MAX_VALUE}) {
                throwsOf(NUMBER, calendar, year, 1, 1);
                throwsOf(NUMBER, calendar, year, 77, 1);
            }
            none(calendar, 100000, 77, 1);
            none(calendar, -100000, 1, 0);
        }
        DayBook book = new DayBook();
        check.dueThrow("not plugged", PLACE, () -> book.fixed(12, 1, 1, 1));
        check.dueThrow("not plugged", PLACE, () -> book.fixed(13, 1, 1, 1));
    }

    /** In the years round a day, each date that a day has is that day's, and no other date is there. */
    private void everyDateNear(int calendar, int d) {
        int year = books.next().date(calendar, d, 0);
        if (Math.abs(year) >= 100000) {
            return;
        }
        Map<String, Integer> days = new HashMap<>();
        int back = calendar == 12 ? 1700 : 900;
        for (int i = d - back; i <= d + back; i++) {
            days.put(books.next().date(calendar, i, 0) + "/" + books.next().date(calendar, i, 1) + "/"
                + books.next().date(calendar, i, 2), i);
        }
        check.due("no date twice", days.size(), 2 * back + 1);
        boolean hasYear0 = calendar != 1 && calendar != 6;
        for (int y = year - 1; y <= year + 1; y++) {
            for (int m = -1; m <= 113; m++) {
                for (int day = 0; day <= 42; day++) {
                    Integer want = days.get(y + "/" + m + "/" + day);
                    if (want == null || y == 0 && !hasYear0) {
                        none(calendar, y, m, day);
                    } else {
                        due(calendar, y, m, day, want);
                    }
                }
            }
        }
    }

    private void due(int calendar, int year, int month, int day, int want) {
        check.due(told(calendar, year, month, day), books.next().fixed(calendar, year, month, day), want);
    }

    private void none(int calendar, int year, int month, int day) {
        throwsOf(ARGUMENT, calendar, year, month, day);
    }

    private void throwsOf(Class<? extends RuntimeException> want, int calendar, int year, int month, int day) {
        check.dueThrow(told(calendar, year, month, day), want, () -> books.next().fixed(calendar, year, month, day));
    }

    private static String told(int calendar, int year, int month, int day) {
        return "fixed(" + calendar + ", " + year + ", " + month + ", " + day + ")";
    }
}

/** Promise 6: onOrBefore, and the weekdays of the terms. */
public final class OnOrBeforeTest extends Promise {

    /** The first day in the range that is a Sunday, Monday, ..: -40000000 is a Tuesday. */
    private static final int[] FIRST = {-39999995, -39999994, -40000000, -39999999, -39999998, -39999997, -39999996};

    public static void main(String[] args) {
        OnOrBeforeTest test = new OnOrBeforeTest();
        test.weekdays();
        test.latestDay();
        test.weekdayLimit();
        test.dayLimit();
        test.thatDayLimit();
        test.firstNamedFirst();
        test.check.end();
    }

    private void weekdays() {
        check.says("The weekday of d is d mod 7 (0 Sunday). Here x mod n is never negative");
        due(0, 0, 0);
        due(1, 1, 1);
        due(6, 6, 6);
        due(0, 7, 7);
        due(6, -1, -1);
        due(1, -6, -6);
        due(0, -7, -7);
        due(6, -8, -8);
        due(6, 739934, 739934);
    }

    private void latestDay() {
        check.says("The latest day, not after d, with that weekday");
        due(0, 1, 0);
        due(2, 1, -5);
        due(0, 6, 0);
        due(1, 0, -6);
        due(0, -1, -7);
        for (int d : new int[] {-LAST_DAY + 7, -100, -3, 0, 5, 739934, LAST_DAY}) {
            for (int weekday = 0; weekday <= 6; weekday++) {
                int want = d;
                while (Model.mod(want, 7) != weekday) {
                    want--;
                }
                due(weekday, d, want);
            }
        }
    }

    private void weekdayLimit() {
        check.says("IllegalArgumentException if weekday is not 0 .. 6");
        due(0, 739934, 739928);
        due(6, 739934, 739934);
        for (int weekday : new int[] {-1, 7, MIN, MAX}) {
            refused(ARGUMENT, weekday, 739934);
        }
    }

    private void dayLimit() {
        check.says("ArithmeticException if d .. is not in the range");
        due(5, LAST_DAY, LAST_DAY);
        due(6, LAST_DAY, LAST_DAY - 6);
        due(2, -LAST_DAY, -LAST_DAY);
        for (int weekday = 0; weekday <= 6; weekday++) {
            for (int d : OUT) {
                refused(NUMBER, weekday, d);
            }
        }
    }

    private void thatDayLimit() {
        check.says("ArithmeticException if .. that day is not in the range");
        for (int weekday = 0; weekday <= 6; weekday++) {
            due(weekday, FIRST[weekday], FIRST[weekday]);
            due(weekday, FIRST[weekday] + 6, FIRST[weekday]);
            refused(NUMBER, weekday, FIRST[weekday] - 1);
            if (weekday != 2) {
                refused(NUMBER, weekday, -LAST_DAY);
            }
        }
    }

    private void firstNamedFirst() {
        check.says("What a call that throws names first is tested first: onOrBefore");
        for (int d : OUT) {
            refused(ARGUMENT, -1, d);
            refused(ARGUMENT, 7, d);
        }
        refused(ARGUMENT, 7, -LAST_DAY);
        refused(ARGUMENT, -1, -LAST_DAY);
    }

    private void due(int weekday, int d, int want) {
        check.due("onOrBefore(" + weekday + ", " + d + ")", books.next().onOrBefore(weekday, d), want);
    }

    private void refused(Class<? extends RuntimeException> want, int weekday, int d) {
        check.refused("onOrBefore(" + weekday + ", " + d + ")", want, States.all(),
            book -> book.onOrBefore(weekday, d));
    }
}

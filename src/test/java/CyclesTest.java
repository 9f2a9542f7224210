/** Promises 6, 7 and 8: onOrBefore, rounds and meeting. */
public final class CyclesTest {
    private static final int LAST_DAY = 40000000;
    private static final int[] OUT = {LAST_DAY + 1, -LAST_DAY - 1, Integer.MIN_VALUE, Integer.MAX_VALUE};

    private final Check check = new Check();
    private final Books books = new Books();

    public static void main(String[] args) {
        CyclesTest test = new CyclesTest();
        test.weekdays();
        test.places();
        test.everyMeeting(0);
        test.everyMeeting(739934);
        test.everyMeeting(LAST_DAY);
        test.everyMeeting(-LAST_DAY + 365);
        test.everyMeeting(-LAST_DAY + 18979);
        test.everyMeeting(-LAST_DAY + 18978);
        test.wrongMeetings();
        test.check.end();
    }

    private void weekdays() {
        check.due("Sunday before day 1", books.next().onOrBefore(0, 1), 0);
        check.due("Monday on day 1", books.next().onOrBefore(1, 1), 1);
        check.due("Tuesday before day 1", books.next().onOrBefore(2, 1), -5);
        for (int d : new int[] {-LAST_DAY + 7, -100, -3, 0, 5, 739934, LAST_DAY}) {
            for (int weekday = 0; weekday <= 6; weekday++) {
                int want = d;
                while (Model.mod(want, 7) != weekday) {
                    want--;
                }
                check.due("onOrBefore(" + weekday + ", " + d + ")", books.next().onOrBefore(weekday, d), want);
            }
        }
        for (int weekday : new int[] {-1, 7, Integer.MIN_VALUE, Integer.MAX_VALUE}) {
            check.dueThrow("weekday " + weekday, IllegalArgumentException.class,
                () -> books.next().onOrBefore(weekday, 1));
            check.dueThrow("the weekday first", IllegalArgumentException.class,
                () -> books.next().onOrBefore(weekday, LAST_DAY + 1));
        }
        for (int d : OUT) {
            check.dueThrow("onOrBefore(0, " + d + ")", ArithmeticException.class, () -> books.next().onOrBefore(0, d));
        }
        int lowest = (int) Model.mod(-LAST_DAY, 7);
        check.due("the range's first day", books.next().onOrBefore(lowest, -LAST_DAY), -LAST_DAY);
        check.dueThrow("a day before the range", ArithmeticException.class,
            () -> books.next().onOrBefore((lowest + 6) % 7, -LAST_DAY));
        check.dueThrow("a day before the range", ArithmeticException.class,
            () -> books.next().onOrBefore((lowest + 1) % 7, -LAST_DAY));
    }

    private void places() {
        check.due("rounds(0)", books.next().rounds(0), 62150);
        check.due("rounds(-1137490)", books.next().rounds(-1137490), 1000 * (260 - 188));
        check.due("rounds(-1137302)", books.next().rounds(-1137302), 188);
        check.due("rounds(-1137303)", books.next().rounds(-1137303), 259187);
        for (int d = -LAST_DAY; d <= LAST_DAY; d += 12347) {
            check.due("rounds(" + d + ")", books.next().rounds(d), place365(d) + 1000 * place260(d));
        }
        check.due("the last day", books.next().rounds(LAST_DAY), place365(LAST_DAY) + 1000 * place260(LAST_DAY));
        for (int d : OUT) {
            check.due("rounds(" + d + ")", books.next().rounds(d), DayBook.NONE);
        }
    }

    private void everyMeeting(int d) {
        int[] latest = new int[365 * 260];
        java.util.Arrays.fill(latest, DayBook.NONE);
        for (int i = d; i > d - 18980 && i >= -LAST_DAY; i--) {
            latest[(int) (place365(i) * 260 + place260(i))] = i;
        }
        for (int place = 0; place < 365; place++) {
            for (int other = 0; other < 260; other++) {
                check.due("meeting(" + place + ", " + other + ", " + d + ")", books.next().meeting(place, other, d),
                    latest[place * 260 + other]);
            }
        }
    }

    private void wrongMeetings() {
        int place = (int) place365(100);
        int other = (int) place260(100);
        check.due("on the day itself", books.next().meeting(place, other, 100), 100);
        check.due("the day before", books.next().meeting(place, other, 99), 100 - 18980);
        for (int wrong : new int[] {-1, 365, Integer.MIN_VALUE, Integer.MAX_VALUE, place + 365, place - 365}) {
            check.due("place " + wrong, books.next().meeting(wrong, other, 100), DayBook.NONE);
        }
        for (int wrong : new int[] {-1, 260, Integer.MIN_VALUE, Integer.MAX_VALUE, other + 260, other - 260}) {
            check.due("other " + wrong, books.next().meeting(place, wrong, 100), DayBook.NONE);
        }
        for (int d : OUT) {
            check.due("d " + d, books.next().meeting(place, other, d), DayBook.NONE);
        }
    }

    private static long place365(long d) {
        return Model.mod(d + 1137490, 365);
    }

    private static long place260(long d) {
        return Model.mod(d + 1137302, 260);
    }
}

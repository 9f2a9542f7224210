import java.util.Arrays;

/** Promise 2: plug. */
public final class PlugTest extends Promise {

    /** The places of plug()'s arguments. */
    private static final int K = 0;
    private static final int MONTHS = 1;
    private static final int LENGTH = 2;
    private static final int EPOCH = 3;
    private static final int A = 4;
    private static final int B = 5;
    private static final int C = 6;

    public static void main(String[] args) {
        PlugTest test = new PlugTest();
        test.becomesThisOne();
        test.monthsOfThisLength();
        test.lastMonthInLeapYears();
        test.epoch();
        test.leapYears();
        test.wasThereOne();
        test.place();
        test.monthsLimit();
        test.lengthLimit();
        test.epochLimit();
        test.cLimit();
        test.aLimit();
        test.bLimit();
        test.placeFirst();
        test.check.end();
    }

    private void becomesThisOne() {
        check.says("Calendar 12 + k becomes this one");
        DayBook book = new DayBook();
        book.plug(0, 13, 28, 100, 1, 0, 4);
        check.due("the first day of 12", book.fixed(12, 1, 1, 1), 100);
        check.dueThrow("13 is not there", PLACE, () -> book.fixed(13, 1, 1, 1));
        book.plug(1, 10, 36, 200, 1, 0, 4);
        check.due("the first day of 12", book.fixed(12, 1, 1, 1), 100);
        check.due("the first day of 13", book.fixed(13, 1, 1, 1), 200);
        book.plug(0, 1, 7, 300, 0, 0, 1);
        check.due("the new first day of 12", book.fixed(12, 1, 1, 1), 300);
        check.due("its year 2", book.fixed(12, 2, 1, 1), 307);
        check.dueThrow("the old one's months", ARGUMENT, () -> book.fixed(12, 1, 13, 1));
        check.due("the first day of 13", book.fixed(13, 1, 1, 1), 200);
    }

    private void monthsOfThisLength() {
        check.says("months 1 .. months of length days each");
        for (int months : new int[] {1, 2, 20}) {
            for (int length : new int[] {1, 2, 40}) {
                DayBook book = new DayBook();
                book.plug(0, months, length, 1, 0, 0, 1);
                for (int month = 1; month <= months; month++) {
                    int first = 1 + (month - 1) * length;
                    check.due("first day of " + month, book.fixed(12, 1, month, 1), first);
                    check.due("last day of " + month, book.fixed(12, 1, month, length), first + length - 1);
                    noDate(book, 1, month, 0);
                    noDate(book, 1, month, length + 1);
                }
                noDate(book, 1, 0, 1);
                noDate(book, 1, months + 1, 1);
                check.due("the next year", book.fixed(12, 2, 1, 1), 1 + months * length);
            }
        }
    }

    private void lastMonthInLeapYears() {
        check.says("the last one a day more in leap years");
        DayBook book = new DayBook();
        book.plug(0, 13, 28, 1, 1, 0, 4);
        check.due("day 29 of month 13 of year 4", book.fixed(12, 4, 13, 29), 1457);
        noDate(book, 4, 13, 30);
        noDate(book, 4, 12, 29);
        noDate(book, 3, 13, 29);
        noDate(book, 5, 13, 29);
        check.due("the month of day 1457", book.date(12, 1457, 1), 13);
        check.due("the day of day 1457", book.date(12, 1457, 2), 29);
        check.due("the year behind it", book.fixed(12, 5, 1, 1), 1458);
        book.plug(0, 1, 1, 1, 1, 0, 2);
        check.due("the last month as the first", book.fixed(12, 2, 1, 2), 3);
        noDate(book, 2, 1, 3);
        noDate(book, 1, 1, 2);
    }

    private void epoch() {
        check.says("the epoch");
        for (int epoch : new int[] {-1000000, -1, 0, 1, 1000000}) {
            DayBook book = new DayBook();
            book.plug(1, 12, 30, epoch, 1, 0, 4);
            check.due("the first day of year 1", book.fixed(13, 1, 1, 1), epoch);
            check.due("the year of the epoch", book.date(13, epoch, 0), 1);
            check.due("the year before the epoch", book.date(13, epoch - 1, 0), 0);
            check.due("the month before the epoch", book.date(13, epoch - 1, 1), 12);
            check.due("the day before the epoch, year 0 being leap", book.date(13, epoch - 1, 2), 31);
        }
    }

    private void leapYears() {
        check.says("leap when (a Y + b) mod c is below a");
        DayBook book = new DayBook();
        book.plug(0, 12, 30, 1, 3, 0, 10);
        leap(book, 0, true, "0");
        leap(book, 4, true, "2");
        leap(book, 1, false, "3");
        leap(book, 3, false, "9");
        leap(book, -10, true, "0");
        leap(book, -6, true, "2");
        leap(book, -9, false, "3");
        leap(book, -7, false, "9");
        book.plug(0, 12, 30, 1, 3, 9, 10);
        leap(book, 1, true, "2");
        leap(book, 0, false, "9");
        leap(book, 8, false, "3");
        leap(book, -3, true, "0");
        book.plug(0, 12, 30, 1, 0, 3, 4);
        for (int year = -100000; year <= 100000; year += 33333) {
            leap(book, year, false, "not below a of 0");
        }
        book.plug(0, 12, 30, 1, 1000, 999, 1000);
        for (int year = -100000; year <= 100000; year += 33333) {
            leap(book, year, true, "below a of c");
        }
        book.plug(0, 12, 30, 1, 1, 0, 1);
        leap(book, 7, true, "0 of 1");
        book.plug(0, 12, 30, 1, 0, 0, 1);
        leap(book, 7, false, "0 of 1");
    }

    private void wasThereOne() {
        check.says("Answers whether there was one before");
        DayBook book = new DayBook();
        check.due("a first one in 12", book.plug(0, 1, 1, 1, 0, 0, 1), false);
        check.due("a first one in 13", book.plug(1, 1, 1, 1, 0, 0, 1), false);
        check.due("a second one in 12", book.plug(0, 1, 1, 1, 0, 0, 1), true);
        check.due("a second one in 13", book.plug(1, 2, 2, 2, 1, 1, 2), true);
        DayBook other = new DayBook();
        check.due("a first one in 13", other.plug(1, 1, 1, 1, 0, 0, 1), false);
        check.due("a second one in 13", other.plug(1, 1, 1, 1, 0, 0, 1), true);
        check.due("a first one in 12", other.plug(0, 1, 1, 1, 0, 0, 1), false);
        DayBook third = new DayBook();
        check.dueThrow("one that is refused", ARGUMENT, () -> plug(third, with(MONTHS, 0)));
        check.due("one behind the refused one", third.plug(0, 1, 1, 1, 0, 0, 1), false);
    }

    private void place() {
        check.says("IndexOutOfBoundsException if k is not 0 or 1");
        taken(with(K, 0));
        taken(with(K, 1));
        for (int k : new int[] {-1, 2, 12, 13, MIN, MAX}) {
            refused(PLACE, with(K, k));
        }
    }

    private void monthsLimit() {
        check.says("IllegalArgumentException if months is not 1 .. 20");
        limits(MONTHS, 1, 20);
    }

    private void lengthLimit() {
        check.says("length not 1 .. 40");
        limits(LENGTH, 1, 40);
    }

    private void epochLimit() {
        check.says("epoch not -1000000 .. 1000000");
        limits(EPOCH, -1000000, 1000000);
    }

    private void cLimit() {
        check.says("c not 1 .. 1000");
        limits(C, 1, 1000, A, 0, B, 0);
        refused(ARGUMENT, with(C, 0, A, 0, B, -1));
        refused(ARGUMENT, with(C, -4, A, -4, B, -5));
        refused(ARGUMENT, with(C, 1001, A, 1001, B, 1000));
    }

    private void aLimit() {
        check.says("a not 0 .. c");
        limits(A, 0, 4, C, 4);
        limits(A, 0, 1, C, 1);
        limits(A, 0, 1000, C, 1000);
    }

    private void bLimit() {
        check.says("b not 0 .. c - 1");
        limits(B, 0, 3, C, 4);
        limits(B, 0, 0, C, 1);
        limits(B, 0, 999, C, 1000);
        limits(B, 0, 3, C, 4, A, 0);
        limits(B, 0, 3, C, 4, A, 4);
    }

    private void placeFirst() {
        check.says("What a call that throws names first is tested first: plug");
        for (int k : new int[] {-1, 2}) {
            refused(PLACE, with(K, k, MONTHS, 0));
            refused(PLACE, with(K, k, LENGTH, 41));
            refused(PLACE, with(K, k, EPOCH, 1000001));
            refused(PLACE, with(K, k, C, 0));
            refused(PLACE, with(K, k, A, 5));
            refused(PLACE, with(K, k, B, 4));
            refused(PLACE, MIN, MIN, MIN, MIN, MIN, MIN, MIN);
        }
    }

    /** The argument at a place may be from one number to another and no more, the others being as said. */
    private void limits(int at, int from, int to, int... others) {
        int[] arguments = with(others);
        for (int taken : new int[] {from, to}) {
            arguments[at] = taken;
            taken(arguments);
        }
        for (int wrong : new int[] {from - 1, to + 1, MIN, MAX}) {
            arguments[at] = wrong;
            refused(ARGUMENT, arguments.clone());
        }
    }

    /** Ordinary arguments but for some, told as a place and an argument in turn. */
    private static int[] with(int... placeAndArgument) {
        int[] arguments = {0, 12, 30, 1, 1, 0, 4};
        for (int i = 0; i < placeAndArgument.length; i += 2) {
            arguments[placeAndArgument[i]] = placeAndArgument[i + 1];
        }
        return arguments;
    }

    private void taken(int... p) {
        String told = "plug of " + Arrays.toString(p);
        DayBook book = new DayBook();
        check.due(told, plug(book, p), 0);
        Model model = new Model(12 + p[K], p);
        check.due("year 1 of " + told, book.fixed(12 + p[K], 1, 1, 1), p[EPOCH]);
        check.due("year 2 of " + told, book.fixed(12 + p[K], 2, 1, 1), p[EPOCH] + model.daysIn(1));
        check.due("year 0 of " + told, book.fixed(12 + p[K], 0, 1, 1), p[EPOCH] - model.daysIn(0));
    }

    private void refused(Class<? extends RuntimeException> want, int... p) {
        check.refused("plug of " + Arrays.toString(p), want, States.all(), book -> plug(book, p));
    }

    private void leap(DayBook book, int year, boolean want, String rest) {
        check.due("leap(12, " + year + "), the rest being " + rest, book.leap(12, year), want);
    }

    private void noDate(DayBook book, int year, int month, int day) {
        check.dueThrow(year + "/" + month + "/" + day, ARGUMENT, () -> book.fixed(12, year, month, day));
    }

    private static int plug(DayBook book, int... p) {
        return book.plug(p[0], p[1], p[2], p[3], p[4], p[5], p[6]) ? 1 : 0;
    }
}

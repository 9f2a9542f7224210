/** Promise 15: read. */
public final class ReadTest {
    private static final String[] NO_DATES = {
        "", "/", "//", "1", "1/", "1/1", "1/1/", "/1/1", "1//1", "1/1/1/", "1/1/1/1", "/1/1/1", "01/1/1", "1/01/1",
        "1/1/01", "00/1/1", "-0/1/1", "-01/1/1", "1/-1/1", "1/1/-1", "1/0/1", "1/1/0", "1/-0/1", "--1/1/1", "1-/1/1",
        "1-1/1/1", "-/1/1", "1/-/1", "1/1/-", "1/1/1-", "2026/2/29", "2026/13/1", "2026/4/31", "100001/1/1",
        "-100001/1/1", "1/257/1", "1/1/257", "4294967297/1/1", "1/4294967297/1", "1/1/4294967297",
        "18446744073709551617/1/1", "1/1/18446744073709551617", "111111111111111111111111", "------------------------",
        "////////////////////////", "2147483648/1/1", "-2147483648/1/1", "1/-2147483648/1", "0000000000000000000001/1/1",
        "999999999/1/1", "9999999999/1/1",
    };

    private final Check check = new Check();

    public static void main(String[] args) {
        ReadTest test = new ReadTest();
        for (String s : NO_DATES) {
            test.refused(0, s);
            test.refused(1, s);
        }
        test.dates();
        test.writtenAndRead();
        test.own();
        test.calendars();
        test.check.end();
    }

    private void dates() {
        due(0, "2026/11/14", 739934);
        due(0, "1/1/1", 1);
        due(0, "0/12/31", 0);
        due(0, "-1/12/31", -366);
        due(0, "100000/12/31", new DayBook().fixed(0, 100000, 12, 31));
        due(0, "-100000/1/1", new DayBook().fixed(0, -100000, 1, 1));
        due(1, "2026/11/14", 739947);
        due(1, "-1/2/29", -308);
        refused(1, "0/1/1");
        refused(6, "0/1/1");
        due(8, "0/0/5", 673222 - 20);
        due(8, "0/19/1", 673222 - 19);
        refused(8, "0/-0/5");
        due(9, "5787/13/1", 740050);
        refused(9, "5786/13/1");
        refused(2, "2025/53/1");
        due(2, "2026/53/7", 739984);
        refused(11, "5127/107/1");
    }

    private void writtenAndRead() {
        for (int i = 0; i <= 11; i++) {
            int calendar = i;
            DayBook book = new DayBook();
            for (int d = -35000000; d <= 35000000; d += 710001) {
                book.write(calendar, d);
                check.due("read(" + calendar + ") of day " + d, book.read(calendar), d);
                check.due("the row stays", book.letter(0) != 0, true);
            }
            for (int d = -40000000; d <= 40000000; d += 80000000) {
                book.write(calendar, d);
                check.dueThrow("read(" + calendar + ") of day " + d, IllegalArgumentException.class,
                    () -> book.read(calendar));
            }
        }
    }

    private void own() {
        DayBook book = new DayBook();
        book.plug(0, 20, 40, -1000000, 0, 0, 1000);
        typeRow(book, "50001/1/1");
        check.due("one's own", book.read(12), 39000000);
        typeRow(book, "100000/20/40");
        check.dueThrow("beyond the range", IllegalArgumentException.class, () -> book.read(12));
        book.plug(0, 1, 1, 0, 0, 0, 1);
        typeRow(book, "100000/1/1");
        check.due("the last year", book.read(12), 99999);
        book.write(12, 100000);
        check.dueThrow("a year more", IllegalArgumentException.class, () -> book.read(12));
        typeRow(book, "-100000/1/1");
        check.due("the first year", book.read(12), -100001);
    }

    private void calendars() {
        DayBook book = new DayBook();
        for (int calendar : new int[] {-1, 12, 13, 14, Integer.MIN_VALUE, Integer.MAX_VALUE}) {
            check.dueThrow("read(" + calendar + ")", IndexOutOfBoundsException.class, () -> book.read(calendar));
            typeRow(book, "1/1/1");
            check.dueThrow("read(" + calendar + ")", IndexOutOfBoundsException.class, () -> book.read(calendar));
            check.due("it changes nothing", book.wipe(), 5);
        }
    }

    private void due(int calendar, String row, int want) {
        DayBook book = new DayBook();
        typeRow(book, row);
        check.due("read(" + calendar + ") of " + row, book.read(calendar), want);
        check.due("it leaves the row", book.wipe(), row.length());
    }

    private void refused(int calendar, String row) {
        DayBook book = new DayBook();
        typeRow(book, row);
        check.dueThrow("read(" + calendar + ") of " + row, IllegalArgumentException.class, () -> book.read(calendar));
        check.due("it changes nothing", book.wipe(), Math.min(24, row.length()));
    }

    private static void typeRow(DayBook book, String row) {
        book.wipe();
        for (char c : row.toCharArray()) {
            book.type(c);
        }
    }
}

/** Promise 15: read. */
public final class ReadTest extends Promise {
    private static final int[] LONG_YEARS = {0, 20, 40, 1000000, 1000, 0, 1000};
    private static final int[] DAY_YEARS = {1, 1, 1, 0, 0, 0, 1};

    public static void main(String[] args) {
        ReadTest test = new ReadTest();
        test.dates();
        test.writtenAndRead();
        test.calendar();
        test.parts();
        test.zerosInFront();
        test.signs();
        test.longRows();
        test.noSuchDates();
        test.range();
        test.yearLimit();
        test.firstNamedFirst();
        test.check.end();
    }

    private void dates() {
        check.says("The day with the date that the row is, written just so, in a calendar");
        due(0, "2026/11/14", 739934);
        due(0, "1/1/1", 1);
        due(0, "0/12/31", 0);
        due(0, "-1/12/31", -366);
        due(1, "2026/11/14", 739947);
        due(1, "-1/2/29", -308);
        due(2, "2026/53/7", 739984);
        due(3, "1743/13/6", 740235);
        due(4, "2019/13/6", 740235);
        due(5, "1447/12/30", 739783);
        due(6, "1404/12/30", 739695);
        due(7, "4/13/6", 655875);
        due(8, "0/0/5", 673222 - 20);
        due(8, "0/19/1", 673222 - 19);
        due(9, "5787/13/1", 740050);
        due(10, "5018/5/31", 700061);
        due(11, "5127/102/30", 739752);
    }

    private void writtenAndRead() {
        check.says("The day with the date that the row is: as write() wrote it");
        for (int calendar = 0; calendar <= 11; calendar++) {
            DayBook book = new DayBook();
            for (int d = -35000000; d <= 35000000; d += 710001) {
                book.write(calendar, d);
                check.due("read(" + calendar + ") of day " + d, book.read(calendar), d);
                check.due("read(" + calendar + ") of day " + d + " again", book.read(calendar), d);
            }
        }
    }

    private void calendar() {
        check.says("IndexOutOfBoundsException if there is no such calendar");
        due(0, "1/1/1", 1);
        due(11, "0/1/1", -1132959);
        check.due("read(12)", typed("1/1/1", LONG_YEARS).read(12), 1000000);
        check.due("read(13)", typed("1/1/1", DAY_YEARS).read(13), 0);
        for (int calendar : NO_CALENDARS) {
            refused(PLACE, calendar, typed("1/1/1"));
            refused(PLACE, calendar, typed("1/1/1", LONG_YEARS, DAY_YEARS));
        }
        refused(PLACE, 12, typed("1/1/1"));
        refused(PLACE, 13, typed("1/1/1"));
        refused(PLACE, 12, typed("1/1/1", DAY_YEARS));
        refused(PLACE, 13, typed("1/1/1", LONG_YEARS));
    }

    private void parts() {
        check.says("IllegalArgumentException if the row isn't such a date: Y, a /, M, a / and D");
        noDates("", "/", "//", "///", "1", "1/", "1/1", "1/1/", "/1/1", "1//1", "/1/", "//1", "1//", "1/1//1", "1//1/1",
            "1/1/1/", "1/1/1/1", "/1/1/1", "111", "1-1-1", "1/1-1", "1-1/1");
    }

    private void zerosInFront() {
        check.says("in decimals without zeros in front (0 as 0)");
        due(0, "0/1/1", -365);
        due(0, "10/10/10", 3570);
        due(8, "0/0/1", 673222 - 24);
        noDates("01/1/1", "1/01/1", "1/1/01", "00/1/1", "000/1/1", "0001/1/1", "1/001/1", "1/1/001", "1/1/00",
            "-01/1/1", "-00/1/1", "1/00/1");
        refused(ARGUMENT, 8, typed("0/00/1"));
        refused(ARGUMENT, 8, typed("00/0/1"));
        refused(ARGUMENT, 8, typed("0/0/01"));
    }

    private void signs() {
        check.says("with a - in front when below 0");
        due(0, "-1/1/1", -730);
        noDates("-0/1/1", "1/-1/1", "1/1/-1", "1/-0/1", "1/1/-0", "--1/1/1", "1-/1/1", "1-1/1/1", "-/1/1", "1/-/1",
            "1/1/-", "1/1/1-", "-1/-1/-1", "1/1-/1", "1/--1/1", "1/1/--1", "-", "-/-/-");
        refused(ARGUMENT, 8, typed("0/-0/5"));
        refused(ARGUMENT, 8, typed("-0/0/5"));
    }

    private void longRows() {
        check.says("THE ROW is a text of at most 24 characters: numbers that fill it");
        noDates("111111111111111111111111", "------------------------", "////////////////////////",
            "2026/11/1400000000000000", "00000000000000002026/1/1", "-4294967295/1/1", "4294967297/1/1",
            "1/4294967297/1", "1/1/4294967297", "18446744073709551617/1/1", "1/18446744073709551617/1",
            "1/1/18446744073709551617", "2147483648/1/1", "-2147483648/1/1", "1/-2147483648/1", "1/1/-2147483648",
            "999999999/1/1", "1/999999999/1", "1/1/9999999999", "-9999999999/1/1");
    }

    private void noSuchDates() {
        check.says("IllegalArgumentException if the row isn't such a date: one that the calendar has not");
        for (int calendar = 0; calendar <= 11; calendar++) {
            for (String row : new String[] {"1/1/0", "1/1/32", "1/1/257", "1/257/1", "1/114/1", "1/99/1"}) {
                refused(ARGUMENT, calendar, typed(row));
            }
        }
        due(0, "2024/2/29", 738945);
        refused(ARGUMENT, 0, typed("2026/2/29"));
        refused(ARGUMENT, 0, typed("2026/0/1"));
        refused(ARGUMENT, 0, typed("2026/13/1"));
        refused(ARGUMENT, 0, typed("2026/4/31"));
        refused(ARGUMENT, 1, typed("0/1/1"));
        refused(ARGUMENT, 2, typed("2025/53/1"));
        refused(ARGUMENT, 2, typed("2026/54/1"));
        refused(ARGUMENT, 2, typed("2026/1/8"));
        refused(ARGUMENT, 3, typed("1744/13/6"));
        refused(ARGUMENT, 4, typed("2020/13/6"));
        refused(ARGUMENT, 5, typed("1448/12/30"));
        refused(ARGUMENT, 6, typed("0/1/1"));
        refused(ARGUMENT, 6, typed("1403/12/30"));
        refused(ARGUMENT, 7, typed("4000/13/6"));
        refused(ARGUMENT, 8, typed("1/0/5"));
        refused(ARGUMENT, 8, typed("1/20/1"));
        refused(ARGUMENT, 9, typed("5786/13/1"));
        refused(ARGUMENT, 10, typed("5018/6/31"));
        refused(ARGUMENT, 11, typed("5127/107/1"));
        refused(ARGUMENT, 11, typed("5127/1/5"));
    }

    private void range() {
        check.says("or its day is not in the range");
        check.due("the last day", typed("48690/3/32", LONG_YEARS).read(12), 40000000);
        refused(ARGUMENT, 12, typed("48690/3/33", LONG_YEARS));
        refused(ARGUMENT, 12, typed("100000/20/41", LONG_YEARS));
        check.due("the first day", typed("-51186/20/28", LONG_YEARS).read(12), -40000000);
        refused(ARGUMENT, 12, typed("-51186/20/27", LONG_YEARS));
        refused(ARGUMENT, 12, typed("-100000/1/1", LONG_YEARS));
    }

    private void yearLimit() {
        check.says("or its year not -100000 .. 100000");
        for (int calendar = 0; calendar <= 11; calendar++) {
            int month = calendar == 9 ? 7 : 1;
            for (String year : new String[] {"100000", "-100000"}) {
                int d = new DayBook().fixed(calendar, Integer.parseInt(year), month, 1);
                due(calendar, year + "/" + month + "/1", d);
            }
            refused(ARGUMENT, calendar, typed("100001/" + month + "/1"));
            refused(ARGUMENT, calendar, typed("-100001/" + month + "/1"));
            for (int d = -40000000; d <= 40000000; d += 80000000) {
                DayBook book = new DayBook();
                book.write(calendar, d);
                refused(ARGUMENT, calendar, book);
            }
        }
        check.due("the last year", typed("100000/1/1", DAY_YEARS).read(13), 99999);
        refused(ARGUMENT, 13, typed("100001/1/1", DAY_YEARS));
        check.due("the first year", typed("-100000/1/1", DAY_YEARS).read(13), -100001);
        refused(ARGUMENT, 13, typed("-100001/1/1", DAY_YEARS));
    }

    private void firstNamedFirst() {
        check.says("What a call that throws names first is tested first: read");
        for (String row : new String[] {"", "1", "1/1/0", "100001/1/1", "-0/1/1", "111111111111111111111111"}) {
            refused(PLACE, -1, typed(row));
            refused(PLACE, 14, typed(row, LONG_YEARS, DAY_YEARS));
            refused(PLACE, 12, typed(row, DAY_YEARS));
            refused(PLACE, 13, typed(row, LONG_YEARS));
        }
    }

    private void due(int calendar, String row, int want) {
        check.unchanged("read(" + calendar + ") of " + row, want, new DayBook[] {typed(row)},
            book -> book.read(calendar));
    }

    /** These rows are dates in none of the calendars. */
    private void noDates(String... rows) {
        for (String row : rows) {
            for (int calendar = 0; calendar <= 13; calendar++) {
                refused(ARGUMENT, calendar, typed(row, LONG_YEARS, DAY_YEARS));
            }
        }
    }

    private void refused(Class<? extends RuntimeException> want, int calendar, DayBook book) {
        check.refused("read(" + calendar + ") of " + Seen.text(book), want, new DayBook[] {book},
            refusing -> refusing.read(calendar));
    }

    private static DayBook typed(String row, int[]... plugs) {
        return States.typed(new Books(plugs).next(), row);
    }
}

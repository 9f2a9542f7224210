/** Promise 11: write, and how a date is written by the terms. */
public final class WriteTest extends Promise {

    /** The range's first and last day in the calendars 0 to 11. */
    private static final String[][] ENDS = {
        {"-109516/9/19", "109517/4/13"}, {"-109515/12/22", "109515/1/14"}, {"-109516/38/2", "109517/15/5"},
        {"-109797/4/26", "109231/5/19"}, {"-109521/4/26", "109507/5/19"}, {"-113518/12/11", "112237/10/23"},
        {"-110138/5/27", "108896/2/25"}, {"-111308/12/6", "107725/8/19"}, {"-111359/10/12", "107674/2/5"},
        {"-105754/11/6", "113276/11/2"}, {"-106410/5/14", "112613/3/23"}, {"-106410/5/19", "112613/4/19"},
    };

    public static void main(String[] args) {
        WriteTest test = new WriteTest();
        test.rowBecomesTheDate();
        test.howADateIsWritten();
        test.calendar();
        test.range();
        test.firstNamedFirst();
        test.check.end();
    }

    private void rowBecomesTheDate() {
        check.says("The row becomes the date of day d in a calendar, written. Answers how many characters it has");
        for (DayBook book : States.all()) {
            written(book, 0, 739934, "2026/11/14");
            written(book, 0, 1, "1/1/1");
            written(book, 1, 739934, "2026/11/1");
            written(book, 9, 739934, "5787/9/4");
            check.due("typed behind it", book.type('7'), true);
            check.due("the row", Seen.text(book), "5787/9/47");
            written(book, 0, 1, "1/1/1");
        }
    }

    private void howADateIsWritten() {
        check.says("Y, a /, M, a / and D, each in decimals without zeros in front");
        written(new DayBook(), 0, 9, "1/1/9");
        written(new DayBook(), 0, 10, "1/1/10");
        written(new DayBook(), 0, 273, "1/9/30");
        written(new DayBook(), 0, 274, "1/10/1");
        written(new DayBook(), 9, 740050, "5787/13/1");
        written(new DayBook(), 11, 739723, "5127/102/1");
        check.says("(0 as 0)");
        written(new DayBook(), 0, 0, "0/12/31");
        written(new DayBook(), 0, -365, "0/1/1");
        written(new DayBook(), 8, 673222 - 20, "0/0/5");
        written(new DayBook(), 8, 673222 - 24, "0/0/1");
        written(new DayBook(), 8, 673222 - 25, "0/18/19");
        check.says("with a - in front when below 0");
        written(new DayBook(), 0, -366, "-1/12/31");
        written(new DayBook(), 1, -2, "-1/12/31");
        written(new DayBook(), 1, -1, "1/1/1");
        written(new DayBook(), 11, -39993227, "-106392/112/30");
    }

    private void calendar() {
        check.says("IndexOutOfBoundsException .. as date()");
        for (int calendar : NO_CALENDARS) {
            refused(PLACE, States.all(), calendar, 1);
        }
        refused(PLACE, States.bare(), 12, 1);
        refused(PLACE, States.bare(), 13, 1);
        written(new DayBook(), 0, 739934, "2026/11/14");
        written(new DayBook(), 11, 739934, "5127/8/5");
        written(States.own()[2], 12, 1, "1/1/1");
        written(States.own()[2], 13, 1, "1000002/1/1");
    }

    private void range() {
        check.says("ArithmeticException as date()");
        for (int calendar = 0; calendar <= 11; calendar++) {
            written(new DayBook(), calendar, -LAST_DAY, ENDS[calendar][0]);
            written(new DayBook(), calendar, LAST_DAY, ENDS[calendar][1]);
            for (int d : OUT) {
                refused(NUMBER, States.all(), calendar, d);
            }
        }
        written(States.own()[2], 13, -LAST_DAY, "-38999999/1/1");
        written(States.own()[2], 13, LAST_DAY, "41000001/1/1");
        for (int d : OUT) {
            refused(NUMBER, States.own(), 12, d);
            refused(NUMBER, States.own(), 13, d);
        }
    }

    private void firstNamedFirst() {
        check.says("What a call that throws names first is tested first: write");
        for (int d : OUT) {
            refused(PLACE, States.all(), -1, d);
            refused(PLACE, States.all(), 14, d);
            refused(PLACE, States.bare(), 12, d);
            refused(PLACE, States.bare(), 13, d);
        }
    }

    private void written(DayBook book, int calendar, int d, String want) {
        check.due("write(" + calendar + ", " + d + ")", book.write(calendar, d), want.length());
        check.due("the row behind write(" + calendar + ", " + d + ")", Seen.text(book), want);
        check.due("its last place", book.letter(want.length() - 1), want.charAt(want.length() - 1));
        check.due("the place behind it", book.letter(want.length()), 0);
        check.due("the last place of all", book.letter(23), 0);
    }

    private void refused(Class<? extends RuntimeException> want, DayBook[] on, int calendar, int d) {
        check.refused("write(" + calendar + ", " + d + ")", want, on, book -> book.write(calendar, d));
    }
}

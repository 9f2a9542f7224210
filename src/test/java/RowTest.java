/** Promises 11 to 14: write, type, wipe and letter. */
public final class RowTest {
    private static final int[] OUT = {40000001, -40000001, Integer.MIN_VALUE, Integer.MAX_VALUE};

    private final Check check = new Check();

    public static void main(String[] args) {
        RowTest test = new RowTest();
        test.written();
        test.refusedWriting();
        test.typed();
        test.wiped();
        test.letters();
        test.check.end();
    }

    private void written() {
        DayBook book = new DayBook();
        written(book, 0, 739934, "2026/11/14");
        written(book, 0, 0, "0/12/31");
        written(book, 0, -366, "-1/12/31");
        written(book, 1, -2, "-1/12/31");
        written(book, 8, 673222 - 20, "0/0/5");
        written(book, 9, 740050, "5787/13/1");
        book.plug(1, 1, 1, -1000000, 0, 0, 1);
        written(book, 13, 40000000, "41000001/1/1");
        written(book, 13, -40000000, "-38999999/1/1");
        for (int calendar = 0; calendar <= 11; calendar++) {
            for (int d : new int[] {-40000000, -1132959, -1, 40000000}) {
                written(book, calendar, d,
                    book.date(calendar, d, 0) + "/" + book.date(calendar, d, 1) + "/" + book.date(calendar, d, 2));
                book.type('-');
            }
            book = new DayBook();
        }
    }

    private void written(DayBook book, int calendar, int d, String want) {
        check.due("write(" + calendar + ", " + d + ")", book.write(calendar, d), want.length());
        check.due("its row", rowOf(book), want);
    }

    private void refusedWriting() {
        DayBook book = new DayBook();
        book.type('4');
        for (int calendar : new int[] {-1, 12, 13, 14, Integer.MIN_VALUE, Integer.MAX_VALUE}) {
            check.dueThrow("write(" + calendar + ", 1)", IndexOutOfBoundsException.class, () -> book.write(calendar, 1));
            check.dueThrow("the calendar first", IndexOutOfBoundsException.class, () -> book.write(calendar, 40000001));
        }
        for (int d : OUT) {
            check.dueThrow("write(0, " + d + ")", ArithmeticException.class, () -> book.write(0, d));
        }
        check.due("it changes nothing", rowOf(book), "4");
    }

    private void typed() {
        StringBuilder taken = new StringBuilder();
        for (int c = 0; c <= 65535; c++) {
            if (new DayBook().type((char) c)) {
                taken.append((char) c);
            }
        }
        check.due("what can be typed", taken.toString(), "-/0123456789");
        DayBook book = new DayBook();
        String all = "0123456789-/-//0123456789";
        for (int i = 0; i < 24; i++) {
            check.due("character " + i, book.type(all.charAt(i)), true);
        }
        check.due("character 24", book.type('9'), false);
        check.due("a wrong one", book.type(':'), false);
        check.due("the row", rowOf(book), all.substring(0, 24));
        check.due("its length", book.wipe(), 24);
        book.write(0, 1);
        check.due("behind what is written", book.type('7'), true);
        check.due("a wrong one behind it", book.type('x'), false);
        check.due("the row", rowOf(book), "1/1/17");
    }

    private void wiped() {
        DayBook book = new DayBook();
        check.due("wipe() of nothing", book.wipe(), 0);
        book.type('1');
        book.type('/');
        check.due("wipe() of two", book.wipe(), 2);
        check.due("nothing left", book.letter(0), 0);
        check.due("wipe() again", book.wipe(), 0);
        book.write(0, 739934);
        check.due("wipe() of a date", book.wipe(), 10);
        check.due("nothing left", rowOf(book), "");
    }

    private void letters() {
        DayBook book = new DayBook();
        book.type('-');
        book.type('5');
        check.due("letter(0)", book.letter(0), '-');
        check.due("letter(1)", book.letter(1), '5');
        for (int i : new int[] {2, 24, -1, Integer.MIN_VALUE, Integer.MAX_VALUE}) {
            check.due("letter(" + i + ")", book.letter(i), 0);
        }
        book.wipe();
        book.type('8');
        check.due("letter(0)", book.letter(0), '8');
        check.due("letter(1) is gone", book.letter(1), 0);
    }

    private static String rowOf(DayBook book) {
        StringBuilder s = new StringBuilder();
        for (int i = 0; book.letter(i) != 0; i++) {
            s.append(book.letter(i));
        }
        return s.toString();
    }
}

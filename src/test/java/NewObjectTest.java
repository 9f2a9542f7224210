/** Promise 1: a new object. */
public final class NewObjectTest {
    public static void main(String[] args) {
        Check check = new Check();
        check.due("letter(0)", new DayBook().letter(0), 0);
        check.due("wipe()", new DayBook().wipe(), 0);
        for (int own = 12; own <= 13; own++) {
            int calendar = own;
            DayBook book = new DayBook();
            check.dueThrow("date of " + own, IndexOutOfBoundsException.class, () -> book.date(calendar, 1, 0));
            check.dueThrow("fixed of " + own, IndexOutOfBoundsException.class, () -> book.fixed(calendar, 1, 1, 1));
            check.dueThrow("leap of " + own, IndexOutOfBoundsException.class, () -> book.leap(calendar, 1) ? 1 : 0);
            check.dueThrow("when of " + own, IndexOutOfBoundsException.class, () -> book.when(calendar, 1, 1, 1, 0));
            check.dueThrow("write of " + own, IndexOutOfBoundsException.class, () -> book.write(calendar, 1));
            check.dueThrow("read of " + own, IndexOutOfBoundsException.class, () -> book.read(calendar));
            check.due("plug(" + (own - 12) + ")", book.plug(own - 12, 1, 1, 1, 0, 0, 1), false);
        }
        check.dueThrow("read(0) of an empty row", IllegalArgumentException.class, () -> new DayBook().read(0));
        twoObjects(check);
        check.end();
    }

    private static void twoObjects(Check check) {
        DayBook one = new DayBook();
        DayBook two = new DayBook();
        one.plug(0, 12, 30, 1, 1, 0, 4);
        one.type('7');
        check.due("another object's row", two.wipe(), 0);
        check.dueThrow("another object's own calendar", IndexOutOfBoundsException.class, () -> two.date(12, 1, 0));
        check.due("the object's row", one.letter(0), '7');
    }
}

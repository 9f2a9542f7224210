/** Promise 1: a new object; and the 512 calls that an object is used for. */
public final class NewObjectTest extends Promise {
    public static void main(String[] args) {
        NewObjectTest test = new NewObjectTest();
        test.noOwnCalendars();
        test.emptyRow();
        test.oneObjectEach();
        test.last512thCall();
        test.check.end();
    }

    private void noOwnCalendars() {
        check.says("No calendars of one's own");
        for (int own = 12; own <= 13; own++) {
            int calendar = own;
            check.refused("date of " + own, PLACE, States.bare(), book -> book.date(calendar, 1, 0));
            check.refused("fixed of " + own, PLACE, States.bare(), book -> book.fixed(calendar, 1, 1, 1));
            check.refused("leap of " + own, PLACE, States.bare(), book -> book.leap(calendar, 1) ? 1 : 0);
            check.refused("when of " + own, PLACE, States.bare(), book -> book.when(calendar, 1, 1, 1, 0));
            check.refused("write of " + own, PLACE, States.bare(), book -> book.write(calendar, 1));
            check.refused("read of " + own, PLACE, States.bare(), book -> book.read(calendar));
            check.due("plug(" + (own - 12) + ")", new DayBook().plug(own - 12, 1, 1, 1, 0, 0, 1), false);
        }
        for (int calendar = 0; calendar <= 11; calendar++) {
            int year = new DayBook().date(calendar, 739934, 0);
            check.due("calendar " + calendar + " is there", year > 0, true);
        }
    }

    private void emptyRow() {
        check.says("an empty row");
        check.due("letter(0)", new DayBook().letter(0), 0);
        check.due("letter(23)", new DayBook().letter(23), 0);
        check.due("wipe()", new DayBook().wipe(), 0);
        DayBook[] books = {new DayBook()};
        for (int calendar = 0; calendar <= 11; calendar++) {
            int read = calendar;
            check.dueThrow("read(" + read + ")", ARGUMENT, () -> books[0].read(read));
        }
        for (int i = 0; i < 24; i++) {
            check.due("type() for the time " + i, books[0].type('1'), true);
        }
        check.due("type() for the time 24", books[0].type('1'), false);
    }

    private void oneObjectEach() {
        check.says("A new object: whatever others have done");
        DayBook one = new DayBook();
        DayBook two = new DayBook();
        String before = Seen.of(two);
        one.plug(0, 12, 30, 1, 1, 0, 4);
        one.plug(1, 12, 30, 1, 1, 0, 4);
        one.type('7');
        check.due("another object", Seen.of(two), before);
        check.due("a later object", Seen.of(new DayBook()), before);
        check.due("the object's row", one.letter(0), '7');
    }

    private void last512thCall() {
        check.says("An object is used for at most 512 calls after it has been made");
        DayBook book = new DayBook();
        for (int i = 0; i < 510; i++) {
            check.due("plug() for the time " + i, book.plug(i % 2, 1 + i % 20, 1 + i % 40, i, i, i, i + 1), i > 1);
        }
        check.due("call 511", book.write(12, 508), "1/1/1".length());
        check.due("call 512", book.read(12), 508);
        DayBook typist = new DayBook();
        for (int i = 0; i < 511; i++) {
            boolean wiped = i % 26 == 25;
            check.due("call " + i, wiped ? typist.wipe() : typist.type('8') ? 1 : 0, wiped ? 24 : i % 26 == 24 ? 0 : 1);
        }
        check.due("call 512", typist.wipe(), 511 % 26);
    }
}

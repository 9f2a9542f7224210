/** Promises 12 to 14: type, wipe and letter. */
public final class RowTest extends Promise {
    private static final int[] BESIDE = {-1, 24, 25, MIN, MAX};

    public static void main(String[] args) {
        RowTest test = new RowTest();
        test.adds();
        test.wrongCharacters();
        test.everyCharacter();
        test.fullRow();
        test.wipes();
        test.wipesHowMany();
        test.letters();
        test.noLetters();
        test.check.end();
    }

    private void adds() {
        check.says("Adds a character to the row. Answers true");
        for (char c : "0123456789-/".toCharArray()) {
            DayBook book = new DayBook();
            check.due("type(" + c + ")", book.type(c), true);
            check.due("the row", Seen.text(book), String.valueOf(c));
            check.due("type(" + c + ")", book.type(c), true);
            check.due("the row", Seen.text(book), "" + c + c);
        }
        DayBook book = new DayBook();
        book.write(0, 1);
        check.due("type(7)", book.type('7'), true);
        check.due("behind what is written", Seen.text(book), "1/1/17");
    }

    private void wrongCharacters() {
        check.says("refused with false if c is not a decimal, - or /");
        // The characters beside those that fit, letters, signs, and decimals of other scripts.
        char[] wrong = {
            0, 1, ' ', '+', ',', '.', ':', ';', 'a', 'A', 'x', '_', '\\', 127, 128, 173, 178, 185, 188, 255,
            0x100 + '0', 0x660, 0x669, 0x966, 0x2010, 0x2212, 0x2044, 0x2070, 0x2080, 0xFF0D, 0xFF0F, 0xFF10,
            0xFF19, 0xFFFF};
        for (char c : wrong) {
            check.unchanged("type() of character " + (int) c, 0, States.all(), book -> book.type(c) ? 1 : 0);
        }
    }

    private void everyCharacter() {
        check.says("c is .. a decimal, - or /: of all characters");
        StringBuilder taken = new StringBuilder();
        for (int c = 0; c <= 65535; c++) {
            if (new DayBook().type((char) c)) {
                taken.append((char) c);
            }
        }
        check.due("what can be typed", taken.toString(), "-/0123456789");
    }

    private void fullRow() {
        check.says("refused with false if .. the row has 24");
        DayBook book = new DayBook();
        String row = "0123456789-/-//012345678";
        for (int i = 0; i < 24; i++) {
            check.due("type() with " + i + " in the row", book.type(row.charAt(i)), true);
        }
        for (char c : "0123456789-/".toCharArray()) {
            check.due("type(" + c + ") with 24 in the row", book.type(c), false);
        }
        check.due("a wrong one with 24 in the row", book.type(':'), false);
        check.due("the row", Seen.text(book), row);
        check.due("letter(24)", book.letter(24), 0);
        check.due("wipe()", book.wipe(), 24);
        check.due("type() behind it", book.type('5'), true);
        check.due("the row", Seen.text(book), "5");
        book.write(0, 1);
        for (int i = 5; i < 24; i++) {
            check.due("type() with " + i + " in the row", book.type('9'), true);
        }
        check.due("type() behind a written date, with 24 in the row", book.type('9'), false);
        check.due("how many there are", book.wipe(), 24);
    }

    private void wipes() {
        check.says("The row becomes empty");
        for (DayBook book : States.all()) {
            book.wipe();
            for (int i = 0; i <= 24; i++) {
                check.due("letter(" + i + ")", book.letter(i), 0);
            }
            check.dueThrow("read(0)", ARGUMENT, () -> book.read(0));
            check.due("type(6)", book.type('6'), true);
            check.due("the row", Seen.text(book), "6");
        }
        DayBook own = States.own()[1];
        own.wipe();
        check.due("calendars stay", own.date(12, 1, 0), 1);
    }

    private void wipesHowMany() {
        check.says("Answers how many characters it had");
        DayBook book = new DayBook();
        check.due("of an empty row", book.wipe(), 0);
        check.due("of an empty row again", book.wipe(), 0);
        for (int had = 1; had <= 24; had += had < 22 ? 7 : 1) {
            for (int i = 0; i < had; i++) {
                book.type('/');
            }
            check.due("of " + had, book.wipe(), had);
            check.due("of none then", book.wipe(), 0);
        }
        for (int i = 0; i < 26; i++) {
            book.type('-');
        }
        check.due("of 24 when 26 were typed", book.wipe(), 24);
        book.write(0, 739934);
        check.due("of a date", book.wipe(), 10);
        book.type('x');
        check.due("of one that was refused", book.wipe(), 0);
    }

    private void letters() {
        check.says("Character i of the row");
        String row = "0123456789-/-//012345678";
        for (int length = 1; length <= 24; length++) {
            DayBook book = States.typed(new DayBook(), row.substring(0, length));
            for (int i = 0; i < length; i++) {
                check.due("letter(" + i + ") of " + length, book.letter(i), row.charAt(i));
            }
        }
    }

    private void noLetters() {
        check.says("0 if there is none");
        for (int i : BESIDE) {
            check.unchanged("letter(" + i + ")", 0, States.all(), book -> book.letter(i));
        }
        for (int length = 0; length <= 24; length++) {
            DayBook book = States.typed(new DayBook(), "888888888888888888888888".substring(0, length));
            check.due("letter(-1) of " + length, book.letter(-1), 0);
            check.due("letter(" + length + ") of " + length, book.letter(length), 0);
        }
        DayBook shorter = new DayBook();
        shorter.write(0, 739934);
        shorter.write(0, 1);
        check.due("letter(4) of a shorter date", shorter.letter(4), '1');
        check.due("letter(5) of a shorter date", shorter.letter(5), 0);
        check.due("letter(9) of a shorter date", shorter.letter(9), 0);
        shorter.wipe();
        check.due("letter(0) of a wiped row", shorter.letter(0), 0);
    }
}

import java.util.Calendar;
import java.util.Date;
import java.util.GregorianCalendar;
import java.util.TimeZone;

/**
 * Dates that others count, since Model and the class, by the same hand, could both misread the document in one place.
 * DateTest compares the calendars 0 and 2 with java.time.
 */
public final class OutsideTest extends Promise {
    private static final long MILLIS_OF_DAY = 86400000L;
    private static final int FIRST_OF_1970 = 719163;

    /** Calendar, day, and its year, month and day as the calendar package of GNU Emacs 28.2 tells them. */
    private static final int[][] EMACS = {
        {3, 171307, 186, 5, 12}, {3, 253427, 411, 3, 11}, {3, 369740, 729, 8, 24}, {3, 452605, 956, 7, 7},
        {3, 507850, 1107, 10, 10}, {3, 567118, 1270, 1, 12}, {3, 613424, 1396, 10, 26}, {3, 664224, 1535, 11, 27},
        {3, 694799, 1619, 8, 11}, {3, 709580, 1660, 1, 26}, {3, 728714, 1712, 6, 17}, {3, 739935, 1743, 3, 6},
        {3, 764652, 1810, 11, 11}, {3, 1234567, 3097, 5, 29},
        {4, 25469, 63, 1, 29}, {4, 171307, 462, 5, 12}, {4, 253427, 687, 3, 11}, {4, 369740, 1005, 8, 24},
        {4, 452605, 1232, 7, 7}, {4, 507850, 1383, 10, 10}, {4, 567118, 1546, 1, 12}, {4, 613424, 1672, 10, 26},
        {4, 664224, 1811, 11, 27}, {4, 694799, 1895, 8, 11}, {4, 709580, 1936, 1, 26}, {4, 728714, 1988, 6, 17},
        {4, 739935, 2019, 3, 6}, {4, 764652, 2086, 11, 11}, {4, 1234567, 3373, 5, 29},
        {5, 253427, 75, 7, 13}, {5, 369740, 403, 10, 5}, {5, 452605, 637, 8, 7}, {5, 507850, 793, 7, 1},
        {5, 567118, 960, 9, 30}, {5, 613424, 1091, 6, 2}, {5, 664224, 1234, 10, 10}, {5, 694799, 1321, 1, 21},
        {5, 709580, 1362, 10, 7}, {5, 728714, 1416, 10, 5}, {5, 739935, 1448, 6, 4}, {5, 764652, 1518, 3, 5},
        {5, 1234567, 2844, 3, 30},
        {6, 25469, -552, 7, 2}, {6, 171307, -153, 10, 18}, {6, 253427, 73, 8, 19}, {6, 369740, 392, 2, 5},
        {6, 452605, 618, 12, 20}, {6, 507850, 770, 3, 22}, {6, 567118, 932, 6, 28}, {6, 613424, 1059, 4, 10},
        {6, 664224, 1198, 5, 10}, {6, 694799, 1282, 1, 29}, {6, 709580, 1322, 7, 14}, {6, 728714, 1374, 12, 6},
        {6, 739935, 1405, 8, 24}, {6, 764652, 1473, 4, 28}, {6, 1234567, 2759, 11, 28},
        {7, 664224, 27, 11, 14}, {7, 694799, 111, 7, 29}, {7, 709580, 152, 1, 15}, {7, 728714, 204, 6, 7},
        {7, 739935, 235, 2, 25}, {7, 764652, 302, 11, 1}, {7, 1234567, 1589, 5, 28},
        {8, 694799, 60, 2, 11}, {8, 709580, 100, 11, 11}, {8, 728714, 152, 18, 19}, {8, 739935, 183, 13, 12},
        {8, 764652, 251, 7, 6}, {8, 1234567, 1537, 18, 10},
        {9, 25469, 3831, 7, 3}, {9, 171307, 4230, 10, 18}, {9, 253427, 4455, 8, 13}, {9, 369740, 4773, 2, 6},
        {9, 452605, 5000, 13, 8}, {9, 507850, 5151, 4, 1}, {9, 567118, 5314, 7, 1}, {9, 613424, 5440, 4, 3},
        {9, 664224, 5579, 5, 11}, {9, 694799, 5663, 1, 22}, {9, 709580, 5704, 7, 8}, {9, 728714, 5756, 12, 5},
        {9, 739935, 5787, 9, 5}, {9, 764652, 5854, 5, 5}, {9, 1234567, 7141, 11, 30},
    };

    /** Day, and its place in the round of 365, from the haab date of the same package. */
    private static final int[][] HAAB = {
        {25469, 69}, {171307, 272}, {253427, 267}, {369740, 145}, {452605, 155}, {507850, 285}, {567118, 58},
        {613424, 9}, {664224, 74}, {694799, 354}, {709580, 170}, {728714, 324}, {739935, 230}, {764652, 127},
        {1234567, 287},
    };

    public static void main(String[] args) {
        OutsideTest test = new OutsideTest();
        test.calendar1();
        test.calendars3To9();
        test.roundOf365();
        test.check.end();
    }

    private void calendar1() {
        check.says("1. Months as in 0; epoch -1; .., as java.util.GregorianCalendar tells it");
        GregorianCalendar old = new GregorianCalendar(TimeZone.getTimeZone("UTC"));
        // Without this it would go over to the rule of calendar 0 in 1582.
        old.setGregorianChange(new Date(Long.MAX_VALUE));
        for (int d = -LAST_DAY; d <= LAST_DAY; d += 1009) {
            old.setTimeInMillis((d - FIRST_OF_1970) * MILLIS_OF_DAY);
            boolean isBefore = old.get(Calendar.ERA) == GregorianCalendar.BC;
            int year = isBefore ? -old.get(Calendar.YEAR) : old.get(Calendar.YEAR);
            both(1, d, year, old.get(Calendar.MONTH) + 1, old.get(Calendar.DAY_OF_MONTH));
        }
    }

    private void calendars3To9() {
        check.says("3. to 9., as GNU Emacs tells them");
        for (int[] row : EMACS) {
            both(row[0], row[1], row[2], row[3], row[4]);
        }
    }

    private void roundOf365() {
        check.says("The day's place in the round of 365, as GNU Emacs tells it");
        for (int[] row : HAAB) {
            check.due("rounds(" + row[0] + ") mod 1000", books.next().rounds(row[0]) % 1000, row[1]);
        }
    }

    private void both(int calendar, int d, int year, int month, int day) {
        String told = calendar + ": " + year + "/" + month + "/" + day;
        check.due("year of " + told, books.next().date(calendar, d, 0), year);
        check.due("month of " + told, books.next().date(calendar, d, 1), month);
        check.due("day of " + told, books.next().date(calendar, d, 2), day);
        if (year >= -100000 && year <= 100000) {
            check.due("fixed of " + told, books.next().fixed(calendar, year, month, day), d);
        }
    }
}

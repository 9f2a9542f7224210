/** Promise 5: leap, and the leap years of each calendar's terms. WalkTest looks at every year. */
public final class LeapTest extends Promise {
    public static void main(String[] args) {
        LeapTest test = new LeapTest();
        test.calendars0And1();
        test.calendars3To5();
        test.calendar6();
        test.calendars7And8();
        test.calendar9();
        test.own();
        test.withoutLeapYears();
        test.noSuchCalendar();
        test.noYear0();
        test.yearLimit();
        test.firstNamedFirst();
        test.check.end();
    }

    private void calendars0And1() {
        check.says("0. leap when Y mod 4 is 0, and Y mod 100 is not 0 or Y mod 400 is 0");
        leap(0, 2024, 2000, 0, -4, -400, 4, 104, 96, -396);
        plain(0, 2026, 2023, 2025, 1900, 2100, -1, -2, -3, -100, -300, 100);
        check.says("1. leap when Y mod 4 is 0 for Y above 0, when (Y + 1) mod 4 is 0 for others");
        leap(1, 4, 1900, 2000, 2024, -1, -5, -101, -401);
        plain(1, 1, 2, 3, 5, 2026, -2, -3, -4, -6, -100, -400);
    }

    private void calendars3To5() {
        check.says("3. leap when Y mod 4 is 3");
        leap(3, 3, 1743, -1, -5);
        plain(3, 0, 1, 2, 4, 1742, 1744, -2, -3, -4);
        check.says("4. As 3");
        leap(4, 3, 2019, -1, -5);
        plain(4, 0, 1, 2, 4, 2018, 2020, -2, -3, -4);
        check.says("5. leap when (11 Y + 14) mod 30 is below 11: the rests 0, 10, 11, 29");
        leap(5, 26, 16, -4, -14, 2, 29, -1);
        plain(5, 27, 15, -3, -15, 1, 30, 0);
    }

    private void calendar6() {
        check.says("6. leap when ((y mod 2820 + 512) * 31) mod 128 is below 31: the rests 0, 30, 31, 127");
        leap(6, 1370, 1404, -171, -43, -137, -9);
        plain(6, 1371, 1403, -170, -42, -138, -10);
        check.says("6. with y = Y - 474 for Y above 0, otherwise Y - 473");
        leap(6, 4, -1, -5);
        plain(6, 1, 2, 3, 5, -2, -3, -4);
        check.says("6. y mod 2820: where it begins anew");
        leap(6, 474, 3294, -2347);
        plain(6, 473, 475, 3293, 3295, -2346, -2348);
    }

    private void calendars7And8() {
        check.says("7. leap when .., and Y mod 4000 is not 0");
        leap(7, 4, 400, 3996, 3600, 4004, -4, -400, -3600);
        plain(7, 1, 3, 5, 100, 300, 4000, 8000, 0, -4000, -100);
        check.says("8. leap when Y + 1844 is leap in calendar 0");
        leap(8, 180, 0, 156, -1844, -1848, -1840, 556);
        plain(8, 181, 1, -1, 56, 256, -1944, -1843, -1845);
    }

    private void calendar9() {
        check.says("9. Leap when (7 Y + 1) mod 19 is below 7: the rests 0, 6, 7, 18");
        leap(9, 5784, 5793, 0, 5787);
        plain(9, 5785, 5792, 1, 5786);
        leap(9, 5784 - 19 * 1000, 5793 - 19 * 1000);
        plain(9, 5785 - 19 * 1000, 5792 - 19 * 1000);
    }

    private void own() {
        check.says("12 and 13 are one's OWN, as plug() says");
        DayBook book = new DayBook();
        book.plug(0, 12, 30, 1, 2, 3, 5);
        book.plug(1, 12, 30, 1, 7, 6, 7);
        for (int year : new int[] {-100000, -99999, -5, -4, -3, -2, -1, 0, 1, 2, 3, 4, 5, 99999, 100000}) {
            check.due("2 in 5, " + year, book.leap(12, year), Model.mod(2L * year + 3, 5) < 2);
            check.due("always, " + year, book.leap(13, year), true);
        }
        check.due("year 1", book.leap(12, 1), true);
        check.due("year 4", book.leap(12, 4), true);
        check.due("year 2", book.leap(12, 2), false);
    }

    private void withoutLeapYears() {
        check.says("UnsupportedOperationException if the calendar is 2, 10 or 11");
        for (int calendar : new int[] {2, 10, 11}) {
            refused(UNSUPPORTED, States.all(), calendar, 1);
            refused(UNSUPPORTED, States.all(), calendar, -100000);
            refused(UNSUPPORTED, States.all(), calendar, 100000);
        }
        for (int calendar : new int[] {1, 3, 9}) {
            plain(calendar, 1);
        }
        plain(12, States.own()[0], 1);
    }

    private void noSuchCalendar() {
        check.says("IndexOutOfBoundsException if there is no such calendar");
        plain(0, 1);
        plain(12, States.own()[0], 1);
        plain(13, States.own()[0], 1);
        for (int calendar : NO_CALENDARS) {
            refused(PLACE, States.all(), calendar, 1);
        }
        refused(PLACE, States.bare(), 12, 1);
        refused(PLACE, States.bare(), 13, 1);
    }

    private void noYear0() {
        check.says("IllegalArgumentException if it has no such year (a year 0)");
        refused(ARGUMENT, States.all(), 1, 0);
        refused(ARGUMENT, States.all(), 6, 0);
        plain(1, 1);
        leap(1, -1);
        plain(6, 1);
        leap(6, -1);
        leap(0, 0);
        plain(3, 0);
        plain(4, 0);
        plain(5, 0);
        plain(7, 0);
        leap(8, 0);
        leap(9, 0);
        check.due("leap(12, 0)", States.own()[0].leap(12, 0), true);
        check.due("leap(13, 0)", States.own()[0].leap(13, 0), false);
    }

    private void yearLimit() {
        check.says("ArithmeticException if year is not -100000 .. 100000");
        leap(0, -100000, 100000);
        leap(1, 100000);
        plain(1, -100000);
        plain(3, -100000, 100000);
        plain(4, -100000, 100000);
        leap(5, 100000);
        plain(5, -100000);
        leap(6, 100000);
        plain(6, -100000);
        plain(7, -100000, 100000);
        leap(8, -100000, 100000);
        leap(9, 100000);
        plain(9, -100000);
        for (int calendar : new int[] {0, 1, 3, 4, 5, 6, 7, 8, 9}) {
            for (int year : new int[] {-100001, 100001, MIN, MAX}) {
                refused(NUMBER, States.all(), calendar, year);
            }
        }
        for (int calendar = 12; calendar <= 13; calendar++) {
            check.due("year -100000", States.own()[0].leap(calendar, -100000), calendar == 12);
            check.due("year 100000", States.own()[0].leap(calendar, 100000), calendar == 12);
            refused(NUMBER, States.own(), calendar, -100001);
            refused(NUMBER, States.own(), calendar, 100001);
        }
    }

    private void firstNamedFirst() {
        check.says("What a call that throws names first is tested first: leap");
        for (int calendar : new int[] {2, 10, 11}) {
            for (int year : new int[] {0, -100001, 100001, MIN}) {
                refused(UNSUPPORTED, States.all(), calendar, year);
            }
        }
        for (int calendar : new int[] {-1, 14}) {
            for (int year : new int[] {0, -100001, 100001, MIN}) {
                refused(PLACE, States.all(), calendar, year);
            }
        }
        refused(PLACE, States.bare(), 12, 100001);
        refused(PLACE, States.bare(), 13, -100001);
    }

    private void leap(int calendar, int... years) {
        for (int year : years) {
            check.due("leap(" + calendar + ", " + year + ")", books.next().leap(calendar, year), true);
        }
    }

    private void plain(int calendar, int... years) {
        for (int year : years) {
            plain(calendar, books.next(), year);
        }
    }

    private void plain(int calendar, DayBook book, int year) {
        check.due("leap(" + calendar + ", " + year + ")", book.leap(calendar, year), false);
    }

    private void refused(Class<? extends RuntimeException> want, DayBook[] on, int calendar, int year) {
        check.refused("leap(" + calendar + ", " + year + ")", want, on, book -> book.leap(calendar, year) ? 1 : 0);
    }
}

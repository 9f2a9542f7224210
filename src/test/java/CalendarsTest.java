/** Terms: days, and the years, months and days of each calendar, at their edges. LeapTest looks at the leap years. */
public final class CalendarsTest extends Promise {
    private static final int[] PLAIN_0 = {
        1, 31, 2, 28, 3, 31, 4, 30, 5, 31, 6, 30, 7, 31, 8, 31, 9, 30, 10, 31, 11, 30, 12, 31};
    private static final int[] LEAP_0 = {
        1, 31, 2, 29, 3, 31, 4, 30, 5, 31, 6, 30, 7, 31, 8, 31, 9, 30, 10, 31, 11, 30, 12, 31};
    private static final int[] PLAIN_3 = {
        1, 30, 2, 30, 3, 30, 4, 30, 5, 30, 6, 30, 7, 30, 8, 30, 9, 30, 10, 30, 11, 30, 12, 30, 13, 5};
    private static final int[] LEAP_3 = {
        1, 30, 2, 30, 3, 30, 4, 30, 5, 30, 6, 30, 7, 30, 8, 30, 9, 30, 10, 30, 11, 30, 12, 30, 13, 6};
    private static final int[] PLAIN_5 = {
        1, 30, 2, 29, 3, 30, 4, 29, 5, 30, 6, 29, 7, 30, 8, 29, 9, 30, 10, 29, 11, 30, 12, 29};
    private static final int[] LEAP_5 = {
        1, 30, 2, 29, 3, 30, 4, 29, 5, 30, 6, 29, 7, 30, 8, 29, 9, 30, 10, 29, 11, 30, 12, 30};
    private static final int[] PLAIN_6 = {
        1, 31, 2, 31, 3, 31, 4, 31, 5, 31, 6, 31, 7, 30, 8, 30, 9, 30, 10, 30, 11, 30, 12, 29};
    private static final int[] LEAP_6 = {
        1, 31, 2, 31, 3, 31, 4, 31, 5, 31, 6, 31, 7, 30, 8, 30, 9, 30, 10, 30, 11, 30, 12, 30};
    private static final int[] PLAIN_8 = {
        1, 19, 2, 19, 3, 19, 4, 19, 5, 19, 6, 19, 7, 19, 8, 19, 9, 19, 10, 19, 11, 19, 12, 19, 13, 19, 14, 19, 15, 19,
        16, 19, 17, 19, 18, 19, 0, 4, 19, 19};
    private static final int[] LEAP_8 = {
        1, 19, 2, 19, 3, 19, 4, 19, 5, 19, 6, 19, 7, 19, 8, 19, 9, 19, 10, 19, 11, 19, 12, 19, 13, 19, 14, 19, 15, 19,
        16, 19, 17, 19, 18, 19, 0, 5, 19, 19};
    private static final int[] DAYS_353 = {
        7, 30, 8, 29, 9, 29, 10, 29, 11, 30, 12, 29, 1, 30, 2, 29, 3, 30, 4, 29, 5, 30, 6, 29};
    private static final int[] DAYS_354 = {
        7, 30, 8, 29, 9, 30, 10, 29, 11, 30, 12, 29, 1, 30, 2, 29, 3, 30, 4, 29, 5, 30, 6, 29};
    private static final int[] DAYS_355 = {
        7, 30, 8, 30, 9, 30, 10, 29, 11, 30, 12, 29, 1, 30, 2, 29, 3, 30, 4, 29, 5, 30, 6, 29};
    private static final int[] DAYS_383 = {
        7, 30, 8, 29, 9, 29, 10, 29, 11, 30, 12, 30, 13, 29, 1, 30, 2, 29, 3, 30, 4, 29, 5, 30, 6, 29};
    private static final int[] DAYS_384 = {
        7, 30, 8, 29, 9, 30, 10, 29, 11, 30, 12, 30, 13, 29, 1, 30, 2, 29, 3, 30, 4, 29, 5, 30, 6, 29};
    private static final int[] DAYS_385 = {
        7, 30, 8, 30, 9, 30, 10, 29, 11, 30, 12, 30, 13, 29, 1, 30, 2, 29, 3, 30, 4, 29, 5, 30, 6, 29};

    public static void main(String[] args) {
        CalendarsTest test = new CalendarsTest();
        test.firstDay();
        test.calendar0();
        test.calendar1();
        test.calendar2();
        test.calendars3And4();
        test.calendar5();
        test.calendar6();
        test.calendar7();
        test.calendar8();
        test.calendar9();
        test.calendar9Beginnings();
        test.calendar10();
        test.calendar11Months();
        test.calendar11Days();
        test.check.end();
    }

    private void firstDay() {
        check.says("day 1 is 1 January of year 1 in calendar 0");
        both(0, 1, 1, 1, 1);
        both(0, 0, 12, 31, 0);
        both(0, 1, 1, 2, 2);
    }

    private void calendar0() {
        check.says("0. Months 1 .. 12 of 31, 28 (29), ..; epoch 1");
        year(0, 2026, 739617, 2025, 2027, PLAIN_0);
        year(0, 2024, 738886, 2023, 2025, LEAP_0);
        year(0, 1900, 693596, 1899, 1901, PLAIN_0);
        year(0, 2000, 730120, 1999, 2001, LEAP_0);
        year(0, 1, 1, 0, 2, PLAIN_0);
        year(0, 0, -365, -1, 1, LEAP_0);
        year(0, -1, -730, -2, 0, PLAIN_0);
        year(0, -4, -1826, -5, -3, LEAP_0);
        year(0, -100, -36889, -101, -99, PLAIN_0);
    }

    private void calendar1() {
        check.says("1. Months as in 0; epoch -1; there is no year 0, year -1 is the one before year 1");
        year(1, 2026, 739630, 2025, 2027, PLAIN_0);
        year(1, 1900, 693608, 1899, 1901, LEAP_0);
        year(1, 1, -1, -1, 2, PLAIN_0);
        year(1, -1, -367, -2, 1, LEAP_0);
        year(1, -2, -732, -3, -1, PLAIN_0);
        year(1, -5, -1828, -6, -4, LEAP_0);
        noYear0(1, PLAIN_0);
    }

    private void calendar2() {
        check.says("2. M counts weeks from 1, as many as begin before year Y + 1 does; D is 1 (Monday) .. 7");
        weeks(2026, 739614, 53);
        weeks(2025, 739250, 52);
        weeks(2027, 739985, 52);
        weeks(2020, 737423, 53);
        weeks(2024, 738886, 52);
        weeks(1, 1, 52);
        weeks(0, -363, 52);
        weeks(-2, -1098, 53);
        check.says("the week, Monday to Sunday, that has 4 January of year Y of calendar 0");
        both(2, 2024, 1, 1, 738886);
        both(0, 2024, 1, 1, 738886);
        both(2, 2026, 1, 1, 739614);
        both(0, 2025, 12, 29, 739614);
        both(2, 2026, 1, 7, 739620);
        both(0, 2026, 1, 4, 739620);
        both(2, 2027, 1, 1, 739985);
        both(0, 2027, 1, 4, 739985);
        both(2, 2026, 53, 7, 739984);
        both(0, 2027, 1, 3, 739984);
    }

    private void calendars3And4() {
        check.says("3. Months 1 .. 12 of 30, 13 of 5 (6); epoch 103605");
        year(3, 1743, 739870, 1742, 1744, LEAP_3);
        year(3, 1744, 740236, 1743, 1745, PLAIN_3);
        year(3, 1, 103605, 0, 2, PLAIN_3);
        year(3, 0, 103240, -1, 1, PLAIN_3);
        year(3, -1, 102874, -2, 0, LEAP_3);
        check.says("4. As 3, epoch 2796");
        year(4, 2019, 739870, 2018, 2020, LEAP_3);
        year(4, 2020, 740236, 2019, 2021, PLAIN_3);
        year(4, 1, 2796, 0, 2, PLAIN_3);
        year(4, 0, 2431, -1, 1, PLAIN_3);
        year(4, -1, 2065, -2, 0, LEAP_3);
    }

    private void calendar5() {
        check.says("5. Months 1 .. 12 of 30, 29, .. 29 (30); epoch 227015");
        year(5, 1447, 739429, 1446, 1448, LEAP_5);
        year(5, 1448, 739784, 1447, 1449, PLAIN_5);
        year(5, 1, 227015, 0, 2, PLAIN_5);
        year(5, 0, 226661, -1, 1, PLAIN_5);
        year(5, -1, 226306, -2, 0, LEAP_5);
    }

    private void calendar6() {
        check.says("6. Months 1 .. 6 of 31, 7 .. 11 of 30, 12 of 29 (30); epoch 226896; there is no year 0");
        year(6, 1403, 738965, 1402, 1404, PLAIN_6);
        year(6, 1404, 739330, 1403, 1405, LEAP_6);
        year(6, 1, 226896, -1, 2, PLAIN_6);
        year(6, -1, 226530, -2, 1, LEAP_6);
        year(6, -2, 226165, -3, -1, PLAIN_6);
        noYear0(6, PLAIN_6);
    }

    private void calendar7() {
        check.says("7. As 3; epoch 654415");
        year(7, 4, 655510, 3, 5, LEAP_3);
        year(7, 5, 655876, 4, 6, PLAIN_3);
        year(7, 1, 654415, 0, 2, PLAIN_3);
        year(7, 0, 654050, -1, 1, PLAIN_3);
        year(7, 4000, 2115019, 3999, 4001, PLAIN_3);
        year(7, -4000, -806919, -4001, -3999, PLAIN_3);
    }

    private void calendar8() {
        check.says("8. Months 1 .. 18 of 19, then month 0 of 4 (5), then month 19 of 19; epoch 673222");
        year(8, 180, 738600, 179, 181, LEAP_8);
        year(8, 181, 738966, 180, 182, PLAIN_8);
        year(8, 56, 693310, 55, 57, PLAIN_8);
        year(8, 1, 673222, 0, 2, PLAIN_8);
        year(8, 0, 672856, -1, 1, LEAP_8);
        year(8, -1844, -651, -1845, -1843, LEAP_8);
    }

    private void calendar9() {
        check.says("9. The months are, in this order, 7 of 30, .. 12 of 29 (30), in leap years 13 of 29, 1 of 30, ..");
        year(9, 5718, 714683, 5717, 5719, DAYS_354);
        year(9, 5782, 738040, 5781, 5783, DAYS_384);
        year(9, 0, -1373811, -1, 1, DAYS_384);
        check.says("but 8 has 30 if the year has 355 or 385 days");
        year(9, 1, -1373427, 0, 2, DAYS_355);
        year(9, 5787, 739871, 5786, 5788, DAYS_385);
        year(9, 5717, 714298, 5716, 5718, DAYS_385);
        check.says("and 9 has 29 if it has 353 or 383");
        year(9, 5761, 730393, 5760, 5762, DAYS_353);
        year(9, -1, -1374164, -2, 0, DAYS_353);
        year(9, 5703, 709190, 5702, 5704, DAYS_383);
    }

    private void calendar9Beginnings() {
        check.says("e(Y) is .., and 1 more if (3 times it, plus 3) mod 7 is below 3: the rests 0, 0, 2, 3, 6");
        both(9, 5790, 7, 1, 740965);
        both(9, 5793, 7, 1, 742057);
        both(9, 5795, 7, 1, 742795);
        both(9, 5803, 7, 1, 745718);
        both(9, 5786, 7, 1, 739517);
        check.says("2 days later if e(Y + 1) - e(Y) is 356");
        both(9, 5718, 7, 1, 714683);
        both(9, 5789, 7, 1, 740611);
        check.says("otherwise 1 later if e(Y) - e(Y - 1) is 382");
        both(9, 5688, 7, 1, 703726);
        both(9, 5519, 7, 1, 642007);
    }

    private void calendar10() {
        check.says("10. M is k mod 12 + 1");
        both(10, 2447, 12, 30, -238807);
        both(10, 2448, 1, 1, -238806);
        none(10, 2448, 0, 1);
        none(10, 2447, 13, 1);
        both(10, -1, 12, 30, -1132960);
        both(10, 0, 1, 1, -1132959);
        check.says("D is (s mod 210389) div 6912 + 1: the rests 0, 6912, 207360");
        both(10, 2448, 1, 2, -238805);
        both(10, 2448, 1, 31, -238776);
        both(10, 2448, 2, 1, -238775);
        check.says("D is (s mod 210389) div 6912 + 1: the rests 210388, 6911, 207359");
        both(10, 5018, 5, 31, 700061);
        both(10, 5018, 6, 1, 700062);
        both(10, 5018, 6, 30, 700091);
        both(10, 5018, 7, 1, 700092);
        none(10, 5018, 6, 31);
        none(10, 5018, 5, 32);
        none(10, 5018, 5, 0);
        none(10, 5018, 6, 0);
    }

    private void calendar11Months() {
        check.says("11. M is .. 100 more if q mod 53433336 is from 1 to 1593336: a rest of 0");
        both(11, 0, 1, 1, -1132959);
        both(11, 0, 1, 30, -1132930);
        check.says("11. M is .. 100 more if q mod 53433336 is from 1 to 1593336: the least rest above 0, 24");
        both(11, -56043, 109, 1, -21602938);
        both(11, -56043, 109, 30, -21602909);
        both(11, -56043, 9, 1, -21602908);
        check.says("11. M is .. 100 more if q mod 53433336 is from 1 to 1593336: a rest of 1593336");
        both(11, -1, 12, 30, -1132989);
        both(11, 0, 101, 1, -1132988);
        both(11, 0, 101, 30, -1132960);
        check.says("11. M is .. 100 more if q mod 53433336 is from 1 to 1593336: the least rest above it, 1593360");
        both(11, -56043, 8, 1, -21602967);
        both(11, -56043, 8, 30, -21602939);
        none(11, -56043, 108, 1);
        check.says("11. Y is c div 12; M is c mod 12 + 1");
        both(11, 5126, 12, 30, 739693);
        both(11, 5127, 1, 1, 739694);
        both(11, 5127, 1, 30, 739722);
        both(11, 5127, 102, 1, 739723);
        both(11, 5127, 102, 30, 739752);
        both(11, 5127, 2, 1, 739753);
        both(11, 5127, 12, 30, 740076);
        both(11, 5128, 1, 1, 740077);
        for (int month : new int[] {-1, 0, 13, 99, 100, 101, 103, 112, 113, 202}) {
            none(11, 5127, month, 2);
        }
    }

    private void calendar11Days() {
        check.says("11. D is (..) mod 30 + 1, which leaves some dates out");
        both(11, 5127, 1, 4, 739697);
        none(11, 5127, 1, 5);
        both(11, 5127, 1, 6, 739698);
        both(11, 5126, 10, 30, 739634);
        none(11, 5126, 11, 1);
        both(11, 5126, 11, 2, 739635);
        both(11, 5128, 3, 1, 740137);
        none(11, 5128, 3, 2);
        both(11, 5128, 3, 3, 740138);
        none(11, 5127, 1, 0);
        none(11, 5127, 1, 31);
        none(11, 5127, 102, 31);
        none(11, 5127, 2, -1);
    }

    /** A year's months, number and length in turn: each begins behind the one before and has just its days. */
    private void year(int calendar, int year, int firstDay, int yearBefore, int yearBehind, int... months) {
        int d = firstDay;
        int lowest = months[0];
        int highest = months[0];
        for (int i = 0; i < months.length; i += 2) {
            int month = months[i];
            int length = months[i + 1];
            none(calendar, year, month, 0);
            both(calendar, year, month, 1, d);
            both(calendar, year, month, length, d + length - 1);
            none(calendar, year, month, length + 1);
            d += length;
            lowest = Math.min(lowest, month);
            highest = Math.max(highest, month);
        }
        none(calendar, year, lowest - 1, 1);
        none(calendar, year, highest + 1, 1);
        both(calendar, yearBehind, months[0], 1, d);
        check.due("the year before " + year, books.next().date(calendar, firstDay - 1, 0), yearBefore);
    }

    private void noYear0(int calendar, int... months) {
        for (int i = 0; i < months.length; i += 2) {
            none(calendar, 0, months[i], 1);
            none(calendar, 0, months[i], months[i + 1]);
        }
    }

    private void weeks(int year, int firstDay, int weeks) {
        for (int week = 1; week <= weeks; week++) {
            int monday = firstDay + 7 * (week - 1);
            none(2, year, week, 0);
            both(2, year, week, 1, monday);
            both(2, year, week, 7, monday + 6);
            none(2, year, week, 8);
        }
        none(2, year, 0, 1);
        none(2, year, weeks + 1, 1);
        both(2, year + 1, 1, 1, firstDay + 7 * weeks);
        check.due("the year before " + year, books.next().date(2, firstDay - 1, 0), year - 1);
    }

    /** A day has this date, and the date this day. */
    private void both(int calendar, int year, int month, int day, long d) {
        String told = calendar + ": " + year + "/" + month + "/" + day;
        check.due("year of " + told, books.next().date(calendar, (int) d, 0), year);
        check.due("month of " + told, books.next().date(calendar, (int) d, 1), month);
        check.due("day of " + told, books.next().date(calendar, (int) d, 2), day);
        check.due("fixed of " + told, books.next().fixed(calendar, year, month, day), d);
    }

    private void none(int calendar, int year, int month, int day) {
        check.dueThrow(calendar + ": " + year + "/" + month + "/" + day, ARGUMENT,
            () -> books.next().fixed(calendar, year, month, day));
    }
}

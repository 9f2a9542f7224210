/** Promise 9: feast. */
public final class FeastTest extends Promise {
    /** Year, month and day of feast 0, and month and day of feast 1, in calendar 0. */
    private static final int[][] EASTERS = {
        {1818, 3, 22, 4, 26}, {1943, 4, 25, 4, 25}, {1954, 4, 18, 4, 25}, {1961, 4, 2, 4, 9}, {1981, 4, 19, 4, 26},
        {2000, 4, 23, 4, 30}, {2008, 3, 23, 4, 27}, {2017, 4, 16, 4, 16}, {2019, 4, 21, 4, 28}, {2024, 3, 31, 5, 5},
        {2025, 4, 20, 4, 20}, {2026, 4, 5, 4, 12}, {2038, 4, 25, 4, 25}, {2049, 4, 18, 4, 25}, {2076, 4, 19, 4, 26},
        {2285, 3, 22, 4, 26},
    };
    /** Year, month and day of feast 2 in calendar 0. */
    private static final int[][] PASSOVERS = {
        {1948, 4, 24}, {2000, 4, 20}, {2013, 3, 26}, {2016, 4, 23}, {2024, 4, 23}, {2025, 4, 13}, {2026, 4, 2},
    };

    public static void main(String[] args) {
        FeastTest test = new FeastTest();
        test.knownDays();
        test.laterByOne();
        test.centuries();
        test.sundayBehind();
        test.yearsNotAbove0();
        test.feast2();
        test.everyYear();
        test.feastLimit();
        test.yearLimit();
        test.firstNamedFirst();
        test.check.end();
    }

    private void knownDays() {
        check.says("The day of a feast");
        for (int[] row : EASTERS) {
            due(0, row[0], row[1], row[2]);
            due(1, row[0], row[3], row[4]);
        }
        for (int[] row : PASSOVERS) {
            due(2, row[0], row[1], row[2]);
        }
    }

    private void laterByOne() {
        check.says("h is 1 more if it is 0");
        due(0, 1981, 4, 19);
        due(0, 2076, 4, 19);
        due(0, -509, 4, 19);
        check.says("or if it is 1 and Y mod 19 is above 10: 10, 11 and others");
        due(0, 827, 4, 25);
        due(0, 675, 4, 25);
        due(0, 3165, 4, 18);
        due(0, 3260, 4, 18);
        due(0, 1734, 4, 25);
        due(0, 1954, 4, 18);
        due(0, 2049, 4, 18);
        check.says("h of 2 is not 1 more: Y mod 19 is above 10");
        due(0, 1707, 4, 24);
    }

    private void centuries() {
        check.says("with c = Y div 100 + 1");
        due(0, 99, 35882);
        due(0, 100, 36267);
        due(0, -1, -623);
        due(0, 0, -266);
        due(0, -100, -36792);
        due(0, -101, -37149);
    }

    private void sundayBehind() {
        check.says("0: the first Sunday behind the day that is h days before 19 April, that day being a Sunday");
        due(0, 1605, 4, 10);
        due(0, 1615, 4, 19);
        due(0, -1998, 4, 7);
        check.says("0: the same, that day being a Saturday");
        due(0, 1602, 4, 7);
        due(0, 1622, 3, 27);
        due(0, -1994, 4, 16);
        check.says("1: with h = (14 + 11 * (Y mod 19)) mod 30: that day being a Sunday, h being 29 and 2");
        due(1, 34, 12138);
        due(1, 18, 6321);
        due(1, -1999, -730415);
        check.says("1: the same, that day being a Saturday, h being 28");
        due(1, 4, 1176);
        due(1, -1998, -730037);
    }

    private void yearsNotAbove0() {
        check.says("of calendar 1 (Y - 1 if Y is not above 0)");
        due(1, 1, 84);
        due(1, 0, -266);
        due(1, -1, -623);
        due(1, -4, -1743);
    }

    private void feast2() {
        check.says("2: day 15 of month 1 of year Y + 3760 of calendar 9");
        due(2, 1, 86);
        due(2, 0, -269);
        due(2, -1, -654);
        due(2, -3759, -1373235);
        due(2, -3760, -1373590);
        due(2, -3761, -1373974);
    }

    private void everyYear() {
        check.says("FEASTS of a year Y of calendar 0: every year");
        for (int year = -90000; year <= 90000; year++) {
            byTheDocument(year);
        }
    }

    private void byTheDocument(int year) {
        long c = Model.div(year, 100) + 1;
        long golden = Model.mod(year, 19);
        long h = Model.mod(14 + 11 * golden - Model.div(3 * c, 4) + Model.div(5 + 8 * c, 25), 30);
        if (h == 0 || h == 1 && golden > 10) {
            h++;
        }
        due(0, year, sundayBehind(books.next().fixed(0, year, 4, 19) - h));
        long old = Model.mod(14 + 11 * golden, 30);
        due(1, year, sundayBehind(books.next().fixed(1, year > 0 ? year : year - 1, 4, 19) - old));
        due(2, year, books.next().fixed(9, year + 3760, 1, 15));
    }

    private static long sundayBehind(long d) {
        long sunday = d + 1;
        while (Model.mod(sunday, 7) != 0) {
            sunday++;
        }
        return sunday;
    }

    private void feastLimit() {
        check.says("IndexOutOfBoundsException if feast is not 0 .. 2");
        due(0, 2026, 4, 5);
        due(2, 2026, 4, 2);
        for (int feast : new int[] {-1, 3, MIN, MAX}) {
            refused(PLACE, feast, 2026);
        }
    }

    private void yearLimit() {
        check.says("ArithmeticException if year is not -90000 .. 90000");
        due(0, -90000, -32872091);
        due(0, 90000, 32871559);
        due(1, -90000, -32872770);
        due(1, 90000, 32872238);
        due(2, -90000, -32872486);
        due(2, 90000, 32871948);
        for (int feast = 0; feast <= 2; feast++) {
            for (int year : new int[] {-90001, 90001, MIN, MAX}) {
                refused(NUMBER, feast, year);
            }
        }
    }

    private void firstNamedFirst() {
        check.says("What a call that throws names first is tested first: feast");
        for (int feast : new int[] {-1, 3, MIN, MAX}) {
            refused(PLACE, feast, 90001);
            refused(PLACE, feast, -90001);
        }
    }

    /** The day is told by its month and day in calendar 0. */
    private void due(int feast, int year, int month, int day) {
        due(feast, year, books.next().fixed(0, year, month, day));
    }

    private void due(int feast, int year, long want) {
        check.due("feast(" + feast + ", " + year + ")", books.next().feast(feast, year), want);
    }

    private void refused(Class<? extends RuntimeException> want, int feast, int year) {
        check.refused("feast(" + feast + ", " + year + ")", want, States.all(), book -> book.feast(feast, year));
    }
}

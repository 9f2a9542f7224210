/** Promise 9: feast. */
public final class FeastTest {
    /** Year, month and day of feast 0, and month and day of feast 1, in calendar 0. */
    private static final int[][] EASTERS = {
        {1818, 3, 22, 4, 26}, {1943, 4, 25, 4, 25}, {1954, 4, 18, 4, 25}, {1961, 4, 2, 4, 9}, {1981, 4, 19, 4, 26},
        {2000, 4, 23, 4, 30}, {2008, 3, 23, 4, 27}, {2017, 4, 16, 4, 16}, {2019, 4, 21, 4, 28}, {2024, 3, 31, 5, 5},
        {2025, 4, 20, 4, 20}, {2026, 4, 5, 4, 12}, {2038, 4, 25, 4, 25}, {2049, 4, 18, 4, 25}, {2076, 4, 19, 4, 26},
        {2285, 3, 22, 4, 26},
    };
    /** Year, month and day of feast 2 in calendar 0. */
    private static final int[][] PASSOVERS = {
        {1948, 4, 24}, {2000, 4, 20}, {2013, 3, 26}, {2016, 4, 23}, {2024, 4, 23}, {2025, 4, 13}, {2026, 4, 2},
    };

    private final Check check = new Check();
    private final Books books = new Books();

    public static void main(String[] args) {
        FeastTest test = new FeastTest();
        for (int[] row : EASTERS) {
            test.due(0, row[0], test.books.next().fixed(0, row[0], row[1], row[2]));
            test.due(1, row[0], test.books.next().fixed(0, row[0], row[3], row[4]));
        }
        for (int[] row : PASSOVERS) {
            test.due(2, row[0], test.books.next().fixed(0, row[0], row[1], row[2]));
        }
        for (int year = -90000; year <= 90000; year++) {
            test.byTheDocument(year);
        }
        test.wrongInputs();
        test.check.end();
    }

    private void byTheDocument(int year) {
        long c = Model.div(year, 100) + 1;
        long golden = Model.mod(year, 19);
        long h = Model.mod(14 + 11 * golden - Model.div(3 * c, 4) + Model.div(5 + 8 * c, 25), 30);
        if (h == 0 || h == 1 && golden > 10) {
            h++;
        }
        due(0, year, sundayBehind(books.next().fixed(0, year, 4, 19) - h));
        long old = Model.mod(14 + 11 * golden, 30);
        due(1, year, sundayBehind(books.next().fixed(1, year > 0 ? year : year - 1, 4, 19) - old));
        due(2, year, books.next().fixed(9, year + 3760, 1, 15));
    }

    private static long sundayBehind(long d) {
        long sunday = d + 1;
        while (Model.mod(sunday, 7) != 0) {
            sunday++;
        }
        return sunday;
    }

    private void wrongInputs() {
        for (int feast : new int[] {-1, 3, Integer.MIN_VALUE, Integer.MAX_VALUE}) {
            throwsOf(feast, 2026, IndexOutOfBoundsException.class);
            throwsOf(feast, 90001, IndexOutOfBoundsException.class);
        }
        for (int feast = 0; feast <= 2; feast++) {
            for (int year : new int[] {-90001, 90001, Integer.MIN_VALUE, Integer.MAX_VALUE}) {
                throwsOf(feast, year, ArithmeticException.class);
            }
        }
    }

    private void due(int feast, int year, long want) {
        check.due("feast(" + feast + ", " + year + ")", books.next().feast(feast, year), want);
    }

    private void throwsOf(int feast, int year, Class<? extends RuntimeException> want) {
        check.dueThrow("feast(" + feast + ", " + year + ")", want, () -> books.next().feast(feast, year));
    }
}

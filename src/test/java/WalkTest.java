/** Promises 3, 4 and 5: every year of the range, walked one by one, and the months of many of them. */
public final class WalkTest extends Promise {
    private static final int[] SEVENTHS = {0, 7, 13, -250000, 3, 1, 7};
    private static final int[] SHORT_YEARS = {1, 1, 3, 999999, 411, 17, 1000};
    private static final int[] ALWAYS_LEAP = {0, 20, 40, 1000000, 1000, 999, 1000};
    private static final int[] NEVER_LEAP = {1, 12, 30, -1000000, 0, 5, 9};

    public static void main(String[] args) {
        WalkTest test = new WalkTest();
        test.check.says("a year's MONTHS have LENGTHS and follow one another as said, and so do years");
        for (int calendar : new int[] {0, 1, 3, 4, 5, 6, 7, 8, 9}) {
            test.walk(calendar, new Model(calendar), 120000);
        }
        test.walkOwn(SEVENTHS);
        test.walkOwn(SHORT_YEARS);
        test.walkOwn(ALWAYS_LEAP);
        test.walkOwn(NEVER_LEAP);
        test.weeks();
        test.check.end();
    }

    private void walkOwn(int[] plug) {
        books = new Books(plug);
        walk(12 + plug[0], new Model(12 + plug[0], plug), 120000);
    }

    private void walk(int calendar, Model model, int years) {
        model.walk(-years, years, (year, number, start, length, first, last) -> {
            boolean near = Math.abs(year) < 500 || Math.abs(year) % 97 == 0 || year > 1800 && year < 2200;
            if (first || near) {
                both(calendar, year, number, 1, start);
            }
            if (last || near) {
                both(calendar, year, number, length, start + length - 1);
            }
            if (near) {
                both(calendar, year, number, (length + 1) / 2, start + (length + 1) / 2 - 1);
                missing(calendar, year, number, 0);
                missing(calendar, year, number, length + 1);
            }
            if (first && Math.abs(year) <= 100000) {
                check.due("leap(" + calendar + ", " + year + ")", books.next().leap(calendar, year), model.leap(year));
            }
        });
    }

    private void both(int calendar, int year, int month, int day, long d) {
        String told = calendar + ", " + year + ", " + month + ", " + day + " at " + d;
        if (Math.abs(d) <= LAST_DAY) {
            check.due("year: " + told, books.next().date(calendar, (int) d, 0), year);
            check.due("month: " + told, books.next().date(calendar, (int) d, 1), month);
            check.due("day: " + told, books.next().date(calendar, (int) d, 2), day);
        }
        if (Math.abs(year) > 100000 || Math.abs(d) > LAST_DAY) {
            check.dueThrow("fixed: " + told, NUMBER,
                () -> books.next().fixed(calendar, year, month, day));
        } else {
            check.due("fixed: " + told, books.next().fixed(calendar, year, month, day), d);
        }
    }

    private void missing(int calendar, int year, int month, int day) {
        if (Math.abs(year) <= 100000) {
            check.dueThrow("fixed(" + calendar + ", " + year + ", " + month + ", " + day + ")",
                ARGUMENT, () -> books.next().fixed(calendar, year, month, day));
        }
    }

    /** Calendar 2, by walking weeks: a week is the first of a year when its Thursday is the first in calendar 0. */
    private void weeks() {
        int year = -400;
        int week = 0;
        for (int monday = books.next().onOrBefore(1, books.next().fixed(0, -400, 1, 8)); year < 2500; monday += 7) {
            int thursdayYear = books.next().date(0, monday + 3, 0);
            week = thursdayYear == year && week > 0 ? week + 1 : weekOf(monday + 3);
            year = thursdayYear;
            for (int day = 1; day <= 7; day += 2) {
                both(2, year, week, day, monday + day - 1);
            }
            missing(2, year, week, 8);
            missing(2, year, week, 0);
            if (books.next().date(0, monday + 10, 0) != year) {
                missing(2, year, week + 1, 1);
                missing(2, year, 0, 1);
            }
        }
    }

    private int weekOf(int thursday) {
        int newYear = books.next().fixed(0, books.next().date(0, thursday, 0), 1, 1);
        return (thursday - newYear) / 7 + 1;
    }
}

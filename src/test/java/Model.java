/**
 * The calendars read from the document once more, in the slowest and plainest way: years and their months are walked
 * one by one from the epoch, and nothing is shared with the class under test.
 */
final class Model {
    interface Visitor {
        /** A month of a year: its number, its first day and its length; first and last tell its place in the year. */
        void month(int year, int number, long start, int length, boolean first, boolean last);
    }

    private static final int[] LENGTHS_0 = {31, 28, 31, 30, 31, 30, 31, 31, 30, 31, 30, 31};

    private final int calendar;
    private final int[] plug;

    Model(int calendar, int... plug) {
        this.calendar = calendar;
        this.plug = plug;
    }

    static long mod(long x, long n) {
        long r = x % n;
        return r < 0 ? r + n : r;
    }

    static long div(long x, long n) {
        return (x - mod(x, n)) / n;
    }

    boolean hasYear0() {
        return calendar != 1 && calendar != 6;
    }

    boolean leap(long year) {
        switch (calendar) {
            case 0:
                return leap0(year);
            case 1:
                return year > 0 ? mod(year, 4) == 0 : mod(year + 1, 4) == 0;
            case 3:
            case 4:
                return mod(year, 4) == 3;
            case 5:
                return mod(11 * year + 14, 30) < 11;
            case 6:
                long y = year > 0 ? year - 474 : year - 473;
                return mod((mod(y, 2820) + 512) * 31, 128) < 31;
            case 7:
                return leap0(year) && mod(year, 4000) != 0;
            case 8:
                return leap0(year + 1844);
            case 9:
                return mod(7 * year + 1, 19) < 7;
            default:
                return mod(plug[4] * year + plug[5], plug[6]) < plug[4];
        }
    }

    private static boolean leap0(long year) {
        return mod(year, 4) == 0 && (mod(year, 100) != 0 || mod(year, 400) == 0);
    }

    long epoch() {
        switch (calendar) {
            case 0: return 1;
            case 1: return -1;
            case 3: return 103605;
            case 4: return 2796;
            case 5: return 227015;
            case 6: return 226896;
            case 7: return 654415;
            case 8: return 673222;
            case 9: return start9(1);
            default: return plug[3];
        }
    }

    /** The months of a year in their order, number and length in turn. */
    int[] months(long year) {
        int more = leap(year) ? 1 : 0;
        switch (calendar) {
            case 0:
            case 1:
                return months0(more);
            case 3:
            case 4:
            case 7:
                int[] coptic = months(12, 30, 0, 13);
                coptic[25] = 5 + more;
                return coptic;
            case 5:
                int[] islamic = months(12, 30, 0, 12);
                for (int i = 1; i < 12; i += 2) {
                    islamic[2 * i + 1] = 29;
                }
                islamic[23] += more;
                return islamic;
            case 6:
                int[] persian = months(6, 31, 30, 12);
                persian[23] = 29 + more;
                return persian;
            case 8:
                int[] bahai = months(18, 19, 19, 20);
                bahai[36] = 0;
                bahai[37] = 4 + more;
                bahai[38] = 19;
                return bahai;
            case 9:
                return months9(year, more == 1);
            default:
                int[] own = months(plug[1], plug[2], 0, plug[1]);
                own[own.length - 1] += more;
                return own;
        }
    }

    /** Months numbered from 1, the first few of one length and the rest of another. */
    private static int[] months(int few, int length, int otherLength, int all) {
        int[] m = new int[2 * all];
        for (int i = 0; i < all; i++) {
            m[2 * i] = i + 1;
            m[2 * i + 1] = i < few ? length : otherLength;
        }
        return m;
    }

    private static int[] months0(int more) {
        int[] m = months(12, 0, 0, 12);
        for (int i = 0; i < 12; i++) {
            m[2 * i + 1] = LENGTHS_0[i];
        }
        m[3] += more;
        return m;
    }

    private static int[] months9(long year, boolean leap) {
        long days = start9(year + 1) - start9(year);
        int eight = days == 355 || days == 385 ? 30 : 29;
        int nine = days == 353 || days == 383 ? 29 : 30;
        return leap
            ? new int[] {
                7, 30, 8, eight, 9, nine, 10, 29, 11, 30, 12, 30, 13, 29, 1, 30, 2, 29, 3, 30, 4, 29, 5, 30, 6, 29}
            : new int[] {7, 30, 8, eight, 9, nine, 10, 29, 11, 30, 12, 29, 1, 30, 2, 29, 3, 30, 4, 29, 5, 30, 6, 29};
    }

    static long start9(long year) {
        long start = -1373427 + e9(year);
        if (e9(year + 1) - e9(year) == 356) {
            return start + 2;
        }
        return e9(year) - e9(year - 1) == 382 ? start + 1 : start;
    }

    private static long e9(long year) {
        long m = div(235 * year - 234, 19);
        long e = 29 * m + div(12084 + 13753 * m, 25920);
        return mod(3 * e + 3, 7) < 3 ? e + 1 : e;
    }

    /** Goes through all years from year 1 up to one, and then from the one before it down to another. */
    void walk(int lowest, int highest, Visitor visitor) {
        long start = epoch();
        for (int year = 1; year <= highest; year++) {
            start = walkYear(year, start, visitor);
        }
        start = epoch();
        for (int year = hasYear0() ? 0 : -1; year >= lowest; year--) {
            start -= daysIn(year);
            walkYear(year, start, visitor);
        }
    }

    long daysIn(long year) {
        int[] months = months(year);
        long days = 0;
        for (int i = 1; i < months.length; i += 2) {
            days += months[i];
        }
        return days;
    }

    private long walkYear(int year, long start, Visitor visitor) {
        int[] months = months(year);
        long day = start;
        for (int i = 0; i < months.length; i += 2) {
            visitor.month(year, months[i], day, months[i + 1], i == 0, i + 2 == months.length);
            day += months[i + 1];
        }
        return day;
    }

    /** Year, month and day of a day in calendar 10. */
    static long[] date10(long d) {
        long s = 6912 * (d + 1132959) + 1728;
        long k = div(s, 210389);
        return new long[] {div(k, 12), mod(k, 12) + 1, div(mod(s, 210389), 6912) + 1};
    }

    /** Year, month and day of a day in calendar 11. */
    static long[] date11(long d) {
        long n = d + 1132959;
        long j = div((4 * n + 1) * 53433336L, 6311670000L);
        long q = j * 51840000L;
        long c = div(q, 53433336);
        if (c * 53433336 < q) {
            c++;
        }
        long rest = mod(q, 53433336);
        long month = mod(c, 12) + 1 + (rest >= 1 && rest <= 1593336 ? 100 : 0);
        return new long[] {div(c, 12), month, mod(div((4 * n + 1) * 1603000080L, 6311670000L), 30) + 1};
    }
}

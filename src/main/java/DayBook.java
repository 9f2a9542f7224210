import java.util.Arrays;

/** Dates of many calendars, all through one count of days. What each call does is said in the document's promises. */
public final class DayBook {
    public static final int NONE = -2147483648;

    private static final int LAST_DAY = 40000000;
    private static final int LAST_YEAR = 100000;
    private static final int LAST_FEAST_YEAR = 90000;
    private static final int ROW_LIMIT = 24;

    private static final int WEEKS = 2;
    private static final int SOLAR = 10;
    private static final int LUNAR = 11;
    private static final int FIRST_OWN = 12;
    private static final int CALENDARS = 14;

    /** Stands where there is no day: far below every day that a date of any calendar can have. */
    private static final long NO_DAY = -9223372036854775808L;

    private static final int[] NUMBERS = {1, 2, 3, 4, 5, 6, 7, 8, 9, 10, 11, 12, 13, 14, 15, 16, 17, 18, 19, 20};
    private static final int[] NUMBERS_OF_8 = {1, 2, 3, 4, 5, 6, 7, 8, 9, 10, 11, 12, 13, 14, 15, 16, 17, 18, 0, 19};
    private static final int[] LENGTHS_OF_0 = {31, 28, 31, 30, 31, 30, 31, 31, 30, 31, 30, 31};
    private static final int[] LENGTHS_OF_3 = {30, 30, 30, 30, 30, 30, 30, 30, 30, 30, 30, 30, 5};
    private static final int[] LENGTHS_OF_5 = {30, 29, 30, 29, 30, 29, 30, 29, 30, 29, 30, 29};
    private static final int[] LENGTHS_OF_6 = {31, 31, 31, 31, 31, 31, 30, 30, 30, 30, 30, 29};
    private static final int[] LENGTHS_OF_8 = {
        19, 19, 19, 19, 19, 19, 19, 19, 19, 19, 19, 19, 19, 19, 19, 19, 19, 19, 4, 19};

    private final MonthCalendar civil;
    private final MonthCalendar julian;
    private final HebrewCalendar hebrew;
    private final Calendar[] calendars;
    private final StringBuilder row;

    public DayBook() {
        civil = new MonthCalendar(NUMBERS, LENGTHS_OF_0, 1, 1, true, new CenturyRule(0, false));
        julian = new MonthCalendar(NUMBERS, LENGTHS_OF_0, 1, -1, false, new SpreadRule(1, 0, 4));
        hebrew = new HebrewCalendar();
        LeapRule thirdOfFour = new SpreadRule(1, 1, 4);
        calendars = new Calendar[CALENDARS];
        calendars[0] = civil;
        calendars[1] = julian;
        calendars[WEEKS] = new WeekCalendar(civil);
        calendars[3] = new MonthCalendar(NUMBERS, LENGTHS_OF_3, 12, 103605, true, thirdOfFour);
        calendars[4] = new MonthCalendar(NUMBERS, LENGTHS_OF_3, 12, 2796, true, thirdOfFour);
        calendars[5] = new MonthCalendar(NUMBERS, LENGTHS_OF_5, 11, 227015, true, new SpreadRule(11, 14, 30));
        calendars[6] = new MonthCalendar(NUMBERS, LENGTHS_OF_6, 11, 226896, false, new CycleRule());
        calendars[7] = new MonthCalendar(NUMBERS, LENGTHS_OF_3, 12, 654415, true, new CenturyRule(0, true));
        calendars[8] = new MonthCalendar(NUMBERS_OF_8, LENGTHS_OF_8, 18, 673222, true, new CenturyRule(1844, false));
        calendars[9] = hebrew;
        calendars[SOLAR] = new SolarCalendar();
        calendars[LUNAR] = new LunarCalendar();
        row = new StringBuilder();
    }

    public boolean plug(int k, int months, int length, int epoch, int a, int b, int c)
            throws IndexOutOfBoundsException, IllegalArgumentException {
        if (k < 0 || k > 1) {
            throw new IndexOutOfBoundsException();
        }
        boolean yearsFit = months >= 1 && months <= 20 && length >= 1 && length <= 40
                && epoch >= -1000000 && epoch <= 1000000;
        boolean ruleFits = c >= 1 && c <= 1000 && a >= 0 && a <= c && b >= 0 && b < c;
        if (!yearsFit || !ruleFits) {
            throw new IllegalArgumentException();
        }
        boolean there = calendars[FIRST_OWN + k] != null;
        int[] lengths = new int[months];
        Arrays.fill(lengths, length);
        calendars[FIRST_OWN + k] =
                new MonthCalendar(NUMBERS, lengths, months - 1, epoch, true, new SpreadRule(a, b, c));
        return there;
    }

    public int date(int calendar, int d, int which) throws IndexOutOfBoundsException, ArithmeticException {
        Calendar chosen = calendarAt(calendar);
        if (chosen == null || which < 0 || which > 2) {
            throw new IndexOutOfBoundsException();
        }
        if (!isInRange(d)) {
            throw new ArithmeticException();
        }
        long packed = chosen.dateOf(d);
        if (which == 0) {
            return yearIn(packed);
        }
        return which == 1 ? monthIn(packed) : dayIn(packed);
    }

    public int fixed(int calendar, int year, int month, int day)
            throws IndexOutOfBoundsException, ArithmeticException, IllegalArgumentException {
        Calendar chosen = calendarAt(calendar);
        if (chosen == null) {
            throw new IndexOutOfBoundsException();
        }
        if (!isWithin(year, LAST_YEAR)) {
            throw new ArithmeticException();
        }
        long d = chosen.dayOf(year, month, day);
        if (d == NO_DAY) {
            throw new IllegalArgumentException();
        }
        if (!isInRange(d)) {
            throw new ArithmeticException();
        }
        return (int) d;
    }

    public boolean leap(int calendar, int year) throws UnsupportedOperationException, IndexOutOfBoundsException,
            IllegalArgumentException, ArithmeticException {
        if (calendar == WEEKS || calendar == SOLAR || calendar == LUNAR) {
            throw new UnsupportedOperationException();
        }
        Calendar chosen = calendarAt(calendar);
        if (chosen == null) {
            throw new IndexOutOfBoundsException();
        }
        if (!chosen.hasYear(year)) {
            throw new IllegalArgumentException();
        }
        if (!isWithin(year, LAST_YEAR)) {
            throw new ArithmeticException();
        }
        return chosen.isLeap(year);
    }

    public int onOrBefore(int weekday, int d) throws IllegalArgumentException, ArithmeticException {
        if (weekday < 0 || weekday > 6) {
            throw new IllegalArgumentException();
        }
        if (!isInRange(d)) {
            throw new ArithmeticException();
        }
        int found = d - Math.floorMod(d - weekday, 7);
        if (!isInRange(found)) {
            throw new ArithmeticException();
        }
        return found;
    }

    public int rounds(int d) {
        return isInRange(d) ? placeIn365(d) + 1000 * placeIn260(d) : NONE;
    }

    public int meeting(int place, int other, int d) {
        if (place < 0 || place >= 365 || other < 0 || other >= 260 || !isInRange(d)) {
            return NONE;
        }
        int found = d - Math.floorMod(placeIn365(d) - place, 365);
        // Both rounds together begin anew after 52 times 365 days.
        for (int i = 0; i < 52; i++) {
            if (placeIn260(found) == other) {
                return isInRange(found) ? found : NONE;
            }
            found -= 365;
        }
        return NONE;
    }

    public int feast(int feast, int year) throws IndexOutOfBoundsException, ArithmeticException {
        if (feast < 0 || feast > 2) {
            throw new IndexOutOfBoundsException();
        }
        if (!isWithin(year, LAST_FEAST_YEAR)) {
            throw new ArithmeticException();
        }
        if (feast == 2) {
            return (int) hebrew.dayOf(year + 3760L, 1, 15);
        }
        return (int) (feast == 0 ? newEaster(year) : oldEaster(year));
    }

    public int when(int calendar, int month, int day, int year, int k)
            throws IndexOutOfBoundsException, ArithmeticException {
        Calendar chosen = calendarAt(calendar);
        if (chosen == null) {
            throw new IndexOutOfBoundsException();
        }
        if (!isWithin(year, LAST_FEAST_YEAR)) {
            throw new ArithmeticException();
        }
        long first = civil.yearStart(year);
        long last = civil.yearStart(year + 1L) - 1;
        int lastYear = yearIn(chosen.dateOf(last));
        int seen = 0;
        // A year of any calendar has a month and day at most once, so its years are gone through, not its days.
        for (int y = yearIn(chosen.dateOf(first)); y <= lastYear; y++) {
            long d = chosen.dayOf(y, month, day);
            if (d >= first && d <= last) {
                if (seen == k) {
                    return (int) d;
                }
                seen++;
            }
        }
        return NONE;
    }

    public int write(int calendar, int d) throws IndexOutOfBoundsException, ArithmeticException {
        Calendar chosen = calendarAt(calendar);
        if (chosen == null) {
            throw new IndexOutOfBoundsException();
        }
        if (!isInRange(d)) {
            throw new ArithmeticException();
        }
        long packed = chosen.dateOf(d);
        row.setLength(0);
        row.append(yearIn(packed));
        row.append('/');
        row.append(monthIn(packed));
        row.append('/');
        row.append(dayIn(packed));
        return row.length();
    }

    public boolean type(char c) {
        boolean fits = isDecimal(c) || c == '-' || c == '/';
        if (!fits || row.length() >= ROW_LIMIT) {
            return false;
        }
        row.append(c);
        return true;
    }

    public int wipe() {
        int had = row.length();
        row.setLength(0);
        return had;
    }

    public char letter(int i) {
        return i >= 0 && i < row.length() ? row.charAt(i) : 0;
    }

    public int read(int calendar) throws IndexOutOfBoundsException, IllegalArgumentException {
        Calendar chosen = calendarAt(calendar);
        if (chosen == null) {
            throw new IndexOutOfBoundsException();
        }
        int slash = slashFrom(0);
        int secondSlash = slashFrom(slash + 1);
        int year = numberIn(0, slash);
        int month = numberIn(slash + 1, secondSlash);
        int day = numberIn(secondSlash + 1, row.length());
        if (year == NONE || month == NONE || day == NONE || !isWithin(year, LAST_YEAR)) {
            throw new IllegalArgumentException();
        }
        long d = chosen.dayOf(year, month, day);
        if (d == NO_DAY || !isInRange(d)) {
            throw new IllegalArgumentException();
        }
        return (int) d;
    }

    private Calendar calendarAt(int calendar) {
        return calendar >= 0 && calendar < CALENDARS ? calendars[calendar] : null;
    }

    private static boolean isInRange(long d) {
        return d >= -LAST_DAY && d <= LAST_DAY;
    }

    private static boolean isWithin(int year, int limit) {
        return year >= -limit && year <= limit;
    }

    private static boolean isDecimal(char c) {
        return c >= '0' && c <= '9';
    }

    private static int placeIn365(int d) {
        return Math.floorMod(d + 1137490, 365);
    }

    private static int placeIn260(int d) {
        return Math.floorMod(d + 1137302, 260);
    }

    private long newEaster(int year) {
        int century = Math.floorDiv(year, 100) + 1;
        int golden = Math.floorMod(year, 19);
        int h = Math.floorMod(
                14 + 11 * golden - Math.floorDiv(3 * century, 4) + Math.floorDiv(5 + 8 * century, 25), 30);
        if (h == 0 || (h == 1 && golden > 10)) {
            h++;
        }
        return sundayBehind(civil.dayOf(year, 4, 19) - h);
    }

    private long oldEaster(int year) {
        int h = Math.floorMod(14 + 11 * Math.floorMod(year, 19), 30);
        int julianYear = year > 0 ? year : year - 1;
        return sundayBehind(julian.dayOf(julianYear, 4, 19) - h);
    }

    private static long sundayBehind(long d) {
        return d + 7 - Math.floorMod(d, 7L);
    }

    /** The place of the row's first slash from there on; the row's length if there is none. */
    private int slashFrom(int from) {
        int i = from;
        while (i < row.length() && row.charAt(i) != '/') {
            i++;
        }
        return i < row.length() ? i : row.length();
    }

    /** The number that stands in the row between two places; NONE if none stands there as write() would write it. */
    private int numberIn(int from, int to) {
        boolean below = from < to && row.charAt(from) == '-';
        int first = below ? from + 1 : from;
        int digits = to - first;
        // Ten digits and more are beyond every year, month and day, and could be beyond int.
        if (digits < 1 || digits > 9 || (row.charAt(first) == '0' && (below || digits > 1))) {
            return NONE;
        }
        int number = 0;
        for (int i = first; i < to; i++) {
            if (!isDecimal(row.charAt(i))) {
                return NONE;
            }
            number = 10 * number + (row.charAt(i) - '0');
        }
        return below ? -number : number;
    }

    /** A date as one number, so that no call makes an object for it; months and days are below 256. */
    private static long packed(long year, long month, long day) {
        return year * 65536 + month * 256 + day;
    }

    private static int yearIn(long packed) {
        return (int) (packed >> 16);
    }

    private static int monthIn(long packed) {
        return (int) (packed >> 8) & 255;
    }

    private static int dayIn(long packed) {
        return (int) packed & 255;
    }

    private static long ceilDiv(long x, long n) {
        return -Math.floorDiv(-x, n);
    }

    private abstract static class Calendar {
        /** The date of a day, packed. */
        abstract long dateOf(long d);

        /** The day with a date, NO_DAY if there is no such date. */
        abstract long dayOf(long year, int month, int day);

        boolean hasYear(long year) {
            return true;
        }

        boolean isLeap(long year) {
            return false;
        }
    }

    /**
     * A calendar of years that are rows of months, where a year's number of days tells all of its months.
     * Inside, years are counted without a gap, also where the calendar has no year 0.
     */
    private abstract static class YearCalendar extends Calendar {
        abstract long yearStart(long count);

        abstract int monthsIn(int days);

        abstract int monthAt(int place, int days);

        abstract int lengthAt(int place, int days);

        long countOf(long year) {
            return year;
        }

        long yearAt(long count) {
            return count;
        }

        long dateOf(long d) {
            long count = countWith(d);
            int days = daysIn(count);
            int lastPlace = monthsIn(days) - 1;
            long left = d - yearStart(count);
            int place = 0;
            while (place < lastPlace && left >= lengthAt(place, days)) {
                left -= lengthAt(place, days);
                place++;
            }
            return packed(yearAt(count), monthAt(place, days), left + 1);
        }

        long dayOf(long year, int month, int day) {
            if (!hasYear(year)) {
                return NO_DAY;
            }
            long count = countOf(year);
            int days = daysIn(count);
            int months = monthsIn(days);
            long monthStart = yearStart(count);
            for (int place = 0; place < months; place++) {
                int length = lengthAt(place, days);
                if (monthAt(place, days) == month) {
                    return day >= 1 && day <= length ? monthStart + day - 1 : NO_DAY;
                }
                monthStart += length;
            }
            return NO_DAY;
        }

        private int daysIn(long count) {
            return (int) (yearStart(count + 1) - yearStart(count));
        }

        /** The year that has a day of the range: even years of one day do not get beyond 2 to the 26th. */
        private long countWith(long d) {
            long count = -(1L << 26);
            for (long step = 1L << 26; step > 0; step /= 2) {
                if (yearStart(count + step) <= d) {
                    count += step;
                }
            }
            return count;
        }
    }

    /** Calendars 0, 1, 3 to 8 and one's own: the same months every year, one of them a day longer in leap years. */
    private static final class MonthCalendar extends YearCalendar {
        private final int[] numbers;
        private final int[] lengths;
        private final int leapPlace;
        private final long epoch;
        private final boolean hasYear0;
        private final LeapRule rule;
        private final int plainDays;

        MonthCalendar(int[] numbers, int[] lengths, int leapPlace, long epoch, boolean hasYear0, LeapRule rule) {
            this.numbers = numbers;
            this.lengths = lengths;
            this.leapPlace = leapPlace;
            this.epoch = epoch;
            this.hasYear0 = hasYear0;
            this.rule = rule;
            int sum = 0;
            for (int length : lengths) {
                sum += length;
            }
            plainDays = sum;
        }

        boolean hasYear(long year) {
            return hasYear0 || year != 0;
        }

        boolean isLeap(long year) {
            return rule.isLeapCount(countOf(year));
        }

        long countOf(long year) {
            return hasYear0 || year > 0 ? year : year + 1;
        }

        long yearAt(long count) {
            return hasYear0 || count > 0 ? count : count - 1;
        }

        long yearStart(long count) {
            return epoch + plainDays * (count - 1) + rule.leapsBefore(count) - rule.leapsBefore(1);
        }

        int monthsIn(int days) {
            return lengths.length;
        }

        int monthAt(int place, int days) {
            return numbers[place];
        }

        int lengthAt(int place, int days) {
            return place == leapPlace && days > plainDays ? lengths[place] + 1 : lengths[place];
        }
    }

    /** Which years are leap, years being counted without a gap. */
    private abstract static class LeapRule {
        abstract boolean isLeapCount(long count);

        /** How many leap years there are before a year, counted from a year that is the rule's own choice. */
        abstract long leapsBefore(long count);
    }

    /** Leap when (a Y + b) mod c is below a: just when (a Y + b) div c is one more than a year before. */
    private static final class SpreadRule extends LeapRule {
        private final long a;
        private final long b;
        private final long c;

        SpreadRule(long a, long b, long c) {
            this.a = a;
            this.b = b;
            this.c = c;
        }

        boolean isLeapCount(long count) {
            return Math.floorMod(a * count + b, c) < a;
        }

        long leapsBefore(long count) {
            return Math.floorDiv(a * (count - 1) + b, c);
        }
    }

    /** Calendar 0's rule, asked for the year so many years later; calendar 7 drops every 4000th year from it. */
    private static final class CenturyRule extends LeapRule {
        private final long later;
        private final boolean dropsFourThousands;

        CenturyRule(long later, boolean dropsFourThousands) {
            this.later = later;
            this.dropsFourThousands = dropsFourThousands;
        }

        boolean isLeapCount(long count) {
            long year = count + later;
            if (dropsFourThousands && Math.floorMod(year, 4000L) == 0) {
                return false;
            }
            return Math.floorMod(year, 4L) == 0
                    && (Math.floorMod(year, 100L) != 0 || Math.floorMod(year, 400L) == 0);
        }

        long leapsBefore(long count) {
            long year = count + later - 1;
            long leaps = Math.floorDiv(year, 4L) - Math.floorDiv(year, 100L) + Math.floorDiv(year, 400L);
            return dropsFourThousands ? leaps - Math.floorDiv(year, 4000L) : leaps;
        }
    }

    /** The rule of calendar 6: cycles of 2820 years with 683 leap years, spread by 31 in 128 from year 474 on. */
    private static final class CycleRule extends LeapRule {
        boolean isLeapCount(long count) {
            return Math.floorMod((Math.floorMod(count - 474, 2820L) + 512) * 31, 128L) < 31;
        }

        long leapsBefore(long count) {
            long year = count - 474;
            return 683 * Math.floorDiv(year, 2820L)
                    + Math.floorDiv((Math.floorMod(year, 2820L) + 511) * 31, 128L);
        }
    }

    /** Calendar 2, its weeks being the months. */
    private static final class WeekCalendar extends YearCalendar {
        private final MonthCalendar civil;

        WeekCalendar(MonthCalendar civil) {
            this.civil = civil;
        }

        long yearStart(long count) {
            long fourthOfJanuary = civil.yearStart(count) + 3;
            return fourthOfJanuary - Math.floorMod(fourthOfJanuary - 1, 7L);
        }

        int monthsIn(int days) {
            return days / 7;
        }

        int monthAt(int place, int days) {
            return place + 1;
        }

        int lengthAt(int place, int days) {
            return 7;
        }
    }

    /** Calendar 9: a year has 353 to 355 days, or 383 to 385 when leap. */
    private static final class HebrewCalendar extends YearCalendar {
        boolean isLeap(long year) {
            return Math.floorMod(7 * year + 1, 19L) < 7;
        }

        long yearStart(long count) {
            long own = elapsed(count);
            long late = 0;
            if (elapsed(count + 1) - own == 356) {
                late = 2;
            } else if (own - elapsed(count - 1) == 382) {
                late = 1;
            }
            return -1373427 + own + late;
        }

        /** The document's e(Y). */
        private static long elapsed(long year) {
            long months = Math.floorDiv(235 * year - 234, 19L);
            long days = 29 * months + Math.floorDiv(12084 + 13753 * months, 25920L);
            return Math.floorMod(3 * days + 3, 7L) < 3 ? days + 1 : days;
        }

        int monthsIn(int days) {
            return isLong(days) ? 13 : 12;
        }

        int monthAt(int place, int days) {
            if (place < 6) {
                return place + 7;
            }
            if (!isLong(days)) {
                return place - 5;
            }
            return place == 6 ? 13 : place - 6;
        }

        int lengthAt(int place, int days) {
            switch (monthAt(place, days)) {
                case 8:
                    return days == 355 || days == 385 ? 30 : 29;
                case 9:
                    return days == 353 || days == 383 ? 29 : 30;
                case 12:
                    return isLong(days) ? 30 : 29;
                case 2:
                case 4:
                case 6:
                case 10:
                case 13:
                    return 29;
                default:
                    return 30;
            }
        }

        /** Only leap years are longer than 355 days. */
        private static boolean isLong(int days) {
            return days > 355;
        }
    }

    /** Calendar 10: a day is 6912 parts and a month 210389. */
    private static final class SolarCalendar extends Calendar {
        private static final long DAY = 6912;
        private static final long MONTH = 210389;
        private static final long AHEAD = 1728;
        private static final long SHIFT = 1132959;

        long dateOf(long d) {
            long parts = DAY * (d + SHIFT) + AHEAD;
            long months = Math.floorDiv(parts, MONTH);
            long day = Math.floorMod(parts, MONTH) / DAY + 1;
            return packed(Math.floorDiv(months, 12L), Math.floorMod(months, 12L) + 1, day);
        }

        long dayOf(long year, int month, int day) {
            if (month < 1 || month > 12 || day < 1 || day > 31) {
                return NO_DAY;
            }
            long months = 12 * year + month - 1;
            long d = ceilDiv(months * MONTH - AHEAD, DAY) - SHIFT + day - 1;
            return dateOf(d) == packed(year, month, day) ? d : NO_DAY;
        }
    }

    /**
     * Calendar 11: months of the moon, by how many of each thing there are in an age. A month bears the number of the
     * month of the sun that begins in it; one in which none begins is leap, its number 100 more.
     */
    private static final class LunarCalendar extends Calendar {
        private static final long SHIFT = 1132959;
        private static final long QUARTER_DAYS = 6311670000L;
        private static final long SUN_MONTHS = 51840000;
        private static final long MOONS = 53433336;
        private static final long MOON_DAYS = 1603000080;
        private static final int LEAP = 100;

        long dateOf(long d) {
            long quarters = 4 * (d + SHIFT) + 1;
            long sunAtStart = Math.floorDiv(quarters * MOONS, QUARTER_DAYS) * SUN_MONTHS;
            long months = ceilDiv(sunAtStart, MOONS);
            long behind = Math.floorMod(sunAtStart, MOONS);
            boolean isLeapMonth = behind >= 1 && behind <= MOONS - SUN_MONTHS;
            long month = Math.floorMod(months, 12L) + 1;
            long day = Math.floorMod(Math.floorDiv(quarters * MOON_DAYS, QUARTER_DAYS), 30L) + 1;
            return packed(Math.floorDiv(months, 12L), isLeapMonth ? month + LEAP : month, day);
        }

        /** A thirtieth of a moon is shorter than a day, so some of them, and their dates, fall out: a day is tried. */
        long dayOf(long year, int month, int day) {
            boolean isLeapMonth = month > LEAP;
            int sunMonth = isLeapMonth ? month - LEAP : month;
            if (sunMonth < 1 || sunMonth > 12 || day < 1 || day > 30) {
                return NO_DAY;
            }
            long moons = Math.floorDiv((12 * year + sunMonth - 1) * MOONS, SUN_MONTHS);
            long moonDays = 30 * (isLeapMonth ? moons - 1 : moons) + day - 1;
            long quarters = ceilDiv(moonDays * QUARTER_DAYS, MOON_DAYS);
            long d = ceilDiv(quarters - 1, 4) - SHIFT;
            return dateOf(d) == packed(year, month, day) ? d : NO_DAY;
        }
    }
}

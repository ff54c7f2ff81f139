/**
 * Eight slots that hold a date and a time each, four zones and a line of text,
 * as ../shared/DOC.md promises them.
 */
public final class TimeDesk {
    private static final int SLOT_COUNT = 8;
    private static final int ZONE_COUNT = 4;
    private static final int CHANGE_COUNT = 8;
    private static final int RULE_COUNT = 2;
    private static final int LINE_LENGTH = 30;

    private static final int YEAR = 0;
    private static final int MONTH = 1;
    private static final int DAY_OF_MONTH = 2;
    private static final int DAY_OF_YEAR = 3;
    private static final int EPOCH_DAY = 4;
    private static final int DAY_OF_WEEK = 5;
    private static final int HOUR = 6;
    private static final int MINUTE = 7;
    private static final int SECOND = 8;
    private static final int NANO_OF_SECOND = 9;
    private static final int SECOND_OF_DAY = 10;
    private static final int NANO_OF_DAY = 11;
    private static final int QUARTER = 12;
    private static final int WEEK = 13;
    private static final int WEEK_YEAR = 14;
    private static final int MONTH_NUMBER = 15;

    private static final int NANOS = 0;
    private static final int DAYS = 7;
    private static final int WEEKS = 8;
    private static final int CENTURIES = 13;

    private static final int FIRST_YEAR = -9999;
    private static final int LAST_YEAR = 9999;
    private static final long FIRST_DAY = -4371587L;
    private static final long LAST_DAY = 2932896L;
    private static final long ALL_DAYS = LAST_DAY - FIRST_DAY;

    private static final long SECONDS_PER_DAY = 86400L;
    private static final long NANOS_PER_SECOND = 1000000000L;
    private static final long NANOS_PER_MINUTE = 60L * NANOS_PER_SECOND;
    private static final long NANOS_PER_HOUR = 60L * NANOS_PER_MINUTE;
    private static final long NANOS_PER_DAY = 24L * NANOS_PER_HOUR;

    private static final int MOST_OFFSET = 64800;
    private static final long FIRST_MOMENT = -377700000000L;
    private static final long LAST_MOMENT = 253400000000L;
    // No date and time of the calendar has a moment near this one.
    private static final long NO_MOMENT = Long.MIN_VALUE;

    private final Stamp[] slots;
    private final Zone[] zones;
    private final Line line;
    private final Page page;

    public TimeDesk() {
        slots = new Stamp[SLOT_COUNT];
        for (int i = 0; i < SLOT_COUNT; i++) {
            slots[i] = new Stamp();
        }
        zones = new Zone[ZONE_COUNT];
        for (int i = 0; i < ZONE_COUNT; i++) {
            zones[i] = new Zone();
        }
        line = new Line();
        page = new Page();
    }

    public void date(int slot, int year, int month, int day)
            throws IndexOutOfBoundsException, IllegalArgumentException {
        Stamp stamp = slotAt(slot);
        if (!Calendar.isDate(year, month, day)) {
            throw new IllegalArgumentException("no such date");
        }
        stamp.setDate(year, month, day);
    }

    public void time(int slot, int hour, int minute, int second, int nano)
            throws IndexOutOfBoundsException, IllegalArgumentException {
        Stamp stamp = slotAt(slot);
        if (!Calendar.isTime(hour, minute, second, nano)) {
            throw new IllegalArgumentException("no such time");
        }
        stamp.setNano(Calendar.nanoOfDay(hour, minute, second, nano));
    }

    public long get(int slot, int field) throws IndexOutOfBoundsException, UnsupportedOperationException {
        Stamp stamp = slotAt(slot);
        if (field < YEAR || field > MONTH_NUMBER) {
            throw new UnsupportedOperationException("no such field");
        }
        return isTimeField(field) ? stamp.timeField(field) : stamp.dateField(field);
    }

    public void with(int slot, int field, long value)
            throws IndexOutOfBoundsException, UnsupportedOperationException, IllegalArgumentException {
        Stamp stamp = slotAt(slot);
        if (field < YEAR || field > MONTH_NUMBER || field == WEEK || field == WEEK_YEAR) {
            throw new UnsupportedOperationException("no such field to set");
        }
        boolean isSet = isTimeField(field) ? stamp.setTimeField(field, value) : stamp.setDateField(field, value);
        if (!isSet) {
            throw new IllegalArgumentException("the value is none of the field's");
        }
    }

    public void plus(int slot, long n, int unit)
            throws IndexOutOfBoundsException, UnsupportedOperationException, ArithmeticException {
        Stamp stamp = slotAt(slot);
        if (!isUnit(unit)) {
            throw new UnsupportedOperationException("no such unit");
        }
        if (!addUnits(stamp, n, unit)) {
            throw new ArithmeticException("no date there");
        }
    }

    public long until(int slot, int other, int unit)
            throws IndexOutOfBoundsException, UnsupportedOperationException, ArithmeticException {
        Stamp from = slotAt(slot);
        Stamp to = slotAt(other);
        if (!isUnit(unit)) {
            throw new UnsupportedOperationException("no such unit");
        }
        if (unit > WEEKS) {
            return wholeUnits(from.monthsUntil(to, from.nano, to.nano), monthsOfUnit(unit));
        }
        long days = from.wholeDaysUntil(to);
        if (unit == WEEKS) {
            return days / 7;
        }
        long rest = from.restUntil(to);
        if (unit == NANOS && !isLongOfNanos(days, rest)) {
            throw new ArithmeticException("more nanoseconds than a long holds");
        }
        long perDay = unitsPerDay(unit);
        return days * perDay + wholeUnits(rest, wholeUnits(NANOS_PER_DAY, perDay));
    }

    public int span(int slot, int other, int what)
            throws IndexOutOfBoundsException, UnsupportedOperationException {
        Stamp from = slotAt(slot);
        Stamp to = slotAt(other);
        if (what < 0 || what > 2) {
            throw new UnsupportedOperationException("no such part of a span");
        }
        long months = from.monthsUntil(to, 0, 0);
        if (what == 0) {
            return (int) (months / 12);
        }
        if (what == 1) {
            return (int) (months % 12);
        }
        return (int) (to.epochDay() - Calendar.dayInMonth(from.monthNumber() + months, from.day));
    }

    public void adjust(int slot, int how, int day)
            throws IndexOutOfBoundsException, IllegalArgumentException, ArithmeticException {
        Stamp stamp = slotAt(slot);
        if (how < 0 || how > 5 || !Calendar.isWeekday(day)) {
            throw new IllegalArgumentException("no such day or way to it");
        }
        if (!stamp.setEpochDay(stamp.adjustedDay(how, day))) {
            throw new ArithmeticException("no date there");
        }
    }

    public int copy(int slot, int other) throws IndexOutOfBoundsException {
        Stamp from = slotAt(slot);
        Stamp to = slotAt(other);
        int order = to.orderAgainst(from);
        to.setDate(from.year, from.month, from.day);
        to.setNano(from.nano);
        return order;
    }

    public boolean zone(int zone, int offset) {
        if (!isZone(zone) || !isOffset(offset)) {
            return false;
        }
        zones[zone].startWith(offset);
        return true;
    }

    public boolean change(int zone, long moment, int offset) {
        if (!isZone(zone) || !isOffset(offset) || !isMoment(moment)) {
            return false;
        }
        return zones[zone].addChange(moment, offset);
    }

    public boolean rule(int zone, int month, int day, int week, int second, int offset) {
        if (!isZone(zone) || !isOffset(offset) || !Calendar.isMonth(month) || !Calendar.isWeekday(week)) {
            return false;
        }
        if ((day < 1 || day > 28) && day != Rule.LAST || second < 0 || second > SECONDS_PER_DAY) {
            return false;
        }
        return zones[zone].addRule(month, day, week, second, offset);
    }

    public int offset(int zone, long moment) throws IllegalArgumentException {
        if (!isZone(zone) || !isMoment(moment)) {
            throw new IllegalArgumentException("no such zone or moment");
        }
        return zones[zone].offsetAt(moment);
    }

    public long moment(int slot, int zone, boolean later)
            throws IndexOutOfBoundsException, IllegalArgumentException {
        Stamp stamp = slotAt(slot);
        if (!isZone(zone)) {
            throw new IllegalArgumentException("no such zone");
        }
        long local = stamp.epochSecond();
        long found = zones[zone].momentOf(local, later);
        return found == NO_MOMENT ? local - zones[zone].offsetBeforeGap(local) : found;
    }

    public void show(int slot, int zone, long moment)
            throws IndexOutOfBoundsException, IllegalArgumentException, ArithmeticException {
        Stamp stamp = slotAt(slot);
        if (!isZone(zone)) {
            throw new IllegalArgumentException("no such zone");
        }
        if (!isMoment(moment)) {
            throw new ArithmeticException("no such moment");
        }
        long local = moment + zones[zone].offsetAt(moment);
        if (!stamp.setEpochDay(Math.floorDiv(local, SECONDS_PER_DAY))) {
            throw new ArithmeticException("no date there");
        }
        stamp.setNano(Math.floorMod(local, SECONDS_PER_DAY) * NANOS_PER_SECOND);
    }

    public double julian(int slot) throws IndexOutOfBoundsException {
        Stamp stamp = slotAt(slot);
        return ((double) stamp.epochDay() + 2440587.5) + (double) stamp.nano / 8.64E13;
    }

    public boolean type(char c) {
        return line.append(c);
    }

    public void parse(int slot) throws IndexOutOfBoundsException, IllegalArgumentException {
        Stamp stamp = slotAt(slot);
        boolean isRead = line.readInto(stamp);
        line.clear();
        if (!isRead) {
            throw new IllegalArgumentException("the line is no text of a date");
        }
    }

    public int text(int slot, int k) throws IndexOutOfBoundsException, IllegalArgumentException {
        Stamp stamp = slotAt(slot);
        if (k < 0) {
            throw new IllegalArgumentException("no character is before the first");
        }
        page.write(stamp);
        return page.characterAt(k);
    }

    private Stamp slotAt(int slot) {
        if (slot < 0 || slot >= SLOT_COUNT) {
            throw new IndexOutOfBoundsException("no such slot");
        }
        return slots[slot];
    }

    private static boolean isZone(int zone) {
        return zone >= 0 && zone < ZONE_COUNT;
    }

    private static boolean isOffset(int offset) {
        return offset >= -MOST_OFFSET && offset <= MOST_OFFSET;
    }

    private static boolean isMoment(long moment) {
        return moment >= FIRST_MOMENT && moment <= LAST_MOMENT;
    }

    private static boolean isTimeField(int field) {
        return field >= HOUR && field <= NANO_OF_DAY;
    }

    private static boolean isUnit(int unit) {
        return unit >= NANOS && unit <= CENTURIES;
    }

    private static boolean addUnits(Stamp stamp, long n, int unit) {
        // More units than days in the calendar lead out of it, if they are days or greater;
        // looking at that first keeps the products below within a long.
        if (unit >= DAYS && (n < -ALL_DAYS || n > ALL_DAYS)) {
            return false;
        }
        if (unit > WEEKS) {
            return stamp.setMonthNumber(stamp.monthNumber() + n * monthsOfUnit(unit));
        }
        if (unit == WEEKS) {
            return stamp.addParts(n * 7, 1);
        }
        return stamp.addParts(n, unitsPerDay(unit));
    }

    /** How many of a unit of 0 to 7 make a day. */
    private static long unitsPerDay(int unit) {
        switch (unit) {
            case 0:
                return NANOS_PER_DAY;
            case 1:
                return SECONDS_PER_DAY * 1000000L;
            case 2:
                return SECONDS_PER_DAY * 1000L;
            case 3:
                return SECONDS_PER_DAY;
            case 4:
                return 1440L;
            case 5:
                return 24L;
            case 6:
                return 2L;
            default:
                return 1L;
        }
    }

    /** How many months make a unit of 9 to 13. */
    private static long monthsOfUnit(int unit) {
        switch (unit) {
            case 10:
                return 3L;
            case 11:
                return 12L;
            case 12:
                return 120L;
            case 13:
                return 1200L;
            default:
                return 1L;
        }
    }

    private static long wholeUnits(long amount, long size) {
        return size > 0 ? amount / size : 0;
    }

    /** Whether so many days and a rest of the same sign are a long in nanoseconds. */
    private static boolean isLongOfNanos(long days, long rest) {
        if (days > 0) {
            return days <= (Long.MAX_VALUE - rest) / NANOS_PER_DAY;
        }
        return days == 0 || days >= (Long.MIN_VALUE - rest) / NANOS_PER_DAY;
    }

    /** What holds of all dates and times. */
    private static final class Calendar {
        // Days from year 0, month 1, day 1 to the epoch.
        private static final long EPOCH = 719528L;
        private static final long DAYS_IN_400_YEARS = 146097L;

        static boolean isLeap(int year) {
            return year % 4 == 0 && (year % 100 != 0 || year % 400 == 0);
        }

        static boolean isYear(long year) {
            return year >= FIRST_YEAR && year <= LAST_YEAR;
        }

        static boolean isMonth(long month) {
            return month >= 1 && month <= 12;
        }

        static boolean isWeekday(long weekday) {
            return weekday >= 1 && weekday <= 7;
        }

        static boolean isDate(int year, int month, int day) {
            return isYear(year) && isMonth(month) && day >= 1 && day <= monthLength(year, month);
        }

        static boolean isTime(int hour, int minute, int second, int nano) {
            return hour >= 0 && hour <= 23 && minute >= 0 && minute <= 59
                    && second >= 0 && second <= 59 && nano >= 0 && nano < NANOS_PER_SECOND;
        }

        static long nanoOfDay(int hour, int minute, int second, int nano) {
            return hour * NANOS_PER_HOUR + minute * NANOS_PER_MINUTE + second * NANOS_PER_SECOND + nano;
        }

        static int monthLength(int year, int month) {
            switch (month) {
                case 2:
                    return isLeap(year) ? 29 : 28;
                case 4:
                case 6:
                case 9:
                case 11:
                    return 30;
                default:
                    return 31;
            }
        }

        static int dayOfYear(int year, int month, int day) {
            // The quotient counts the days before the month as if the second month had 30 days.
            int counted = (367 * month - 362) / 12 + day;
            if (month <= 2) {
                return counted;
            }
            return isLeap(year) ? counted - 1 : counted - 2;
        }

        static long epochDay(int year, int month, int day) {
            return daysBeforeYear(year) + dayOfYear(year, month, day) - 1 - EPOCH;
        }

        /** The epoch day of a month's day, or of its last day if it has no such one. */
        static long dayInMonth(long monthNumber, int day) {
            int year = (int) Math.floorDiv(monthNumber, 12L);
            int month = (int) Math.floorMod(monthNumber, 12L) + 1;
            return epochDay(year, month, Math.min(day, monthLength(year, month)));
        }

        static int yearOfDay(long epochDay) {
            long days = epochDay + EPOCH;
            int near = (int) Math.floorDiv(days * 400, DAYS_IN_400_YEARS);
            // Leap days are not spread evenly, so the quotient may be a year off.
            if (daysBeforeYear(near) > days) {
                return near - 1;
            }
            return daysBeforeYear(near + 1) <= days ? near + 1 : near;
        }

        private static long daysBeforeYear(int year) {
            return 365L * year + Math.floorDiv(year + 3, 4) - Math.floorDiv(year + 99, 100)
                    + Math.floorDiv(year + 399, 400);
        }

        static int weekday(long epochDay) {
            return (int) Math.floorMod(epochDay + 3, 7L) + 1;
        }

        static long weekdayFrom(long epochDay, int weekday) {
            return epochDay + Math.floorMod(weekday - weekday(epochDay), 7);
        }

        static long weekdayUpTo(long epochDay, int weekday) {
            return epochDay - Math.floorMod(weekday(epochDay) - weekday, 7);
        }

        /** The Thursday of a day's week: it tells the week's year and number. */
        static long thursday(long epochDay) {
            return epochDay + 4 - weekday(epochDay);
        }

        static int week(long epochDay) {
            long thursday = thursday(epochDay);
            long newYear = epochDay(yearOfDay(thursday), 1, 1);
            return (int) ((thursday - newYear) / 7) + 1;
        }
    }

    /** A date and a time. */
    private static final class Stamp {
        private int year;
        private int month;
        private int day;
        private long nano;

        Stamp() {
            year = 1970;
            month = 1;
            day = 1;
        }

        void setDate(int newYear, int newMonth, int newDay) {
            year = newYear;
            month = newMonth;
            day = newDay;
        }

        void setNano(long nanoOfDay) {
            nano = nanoOfDay;
        }

        long epochDay() {
            return Calendar.epochDay(year, month, day);
        }

        long epochSecond() {
            return epochDay() * SECONDS_PER_DAY + nano / NANOS_PER_SECOND;
        }

        long monthNumber() {
            return year * 12L + month - 1;
        }

        boolean setEpochDay(long target) {
            if (target < FIRST_DAY || target > LAST_DAY) {
                return false;
            }
            int newYear = Calendar.yearOfDay(target);
            int rest = (int) (target - Calendar.epochDay(newYear, 1, 1)) + 1;
            int newMonth = 1;
            while (newMonth < 12 && rest > Calendar.monthLength(newYear, newMonth)) {
                rest -= Calendar.monthLength(newYear, newMonth);
                newMonth++;
            }
            setDate(newYear, newMonth, rest);
            return true;
        }

        boolean setMonthNumber(long target) {
            if (target < FIRST_YEAR * 12L || target > LAST_YEAR * 12L + 11) {
                return false;
            }
            return setEpochDay(Calendar.dayInMonth(target, day));
        }

        /** Adds n parts of a day, of which perDay make it up. */
        boolean addParts(long n, long perDay) {
            if (perDay <= 0) {
                return false;
            }
            long days = Math.floorDiv(n, perDay);
            long time = nano + Math.floorMod(n, perDay) * (NANOS_PER_DAY / perDay);
            if (time >= NANOS_PER_DAY) {
                time -= NANOS_PER_DAY;
                days++;
            }
            if (!setEpochDay(epochDay() + days)) {
                return false;
            }
            nano = time;
            return true;
        }

        long dateField(int field) {
            switch (field) {
                case YEAR:
                    return year;
                case MONTH:
                    return month;
                case DAY_OF_MONTH:
                    return day;
                case DAY_OF_YEAR:
                    return Calendar.dayOfYear(year, month, day);
                case EPOCH_DAY:
                    return epochDay();
                case DAY_OF_WEEK:
                    return Calendar.weekday(epochDay());
                case QUARTER:
                    return quarter();
                case WEEK:
                    return Calendar.week(epochDay());
                case WEEK_YEAR:
                    return Calendar.yearOfDay(Calendar.thursday(epochDay()));
                default:
                    return monthNumber();
            }
        }

        boolean setDateField(int field, long value) {
            switch (field) {
                case YEAR:
                    return Calendar.isYear(value) && setMonthNumber(value * 12 + month - 1);
                case MONTH:
                    return Calendar.isMonth(value) && setMonthNumber(year * 12L + value - 1);
                case DAY_OF_MONTH:
                    return value >= 1 && value <= Calendar.monthLength(year, month)
                            && setEpochDay(epochDay() + value - day);
                case DAY_OF_YEAR:
                    return value >= 1 && value <= Calendar.dayOfYear(year, 12, 31)
                            && setEpochDay(Calendar.epochDay(year, 1, 1) + value - 1);
                case EPOCH_DAY:
                    return setEpochDay(value);
                case DAY_OF_WEEK:
                    return Calendar.isWeekday(value)
                            && setEpochDay(epochDay() + value - Calendar.weekday(epochDay()));
                case QUARTER:
                    return value >= 1 && value <= 4 && setMonthNumber(monthNumber() + 3 * (value - quarter()));
                default:
                    return setMonthNumber(value);
            }
        }

        private int quarter() {
            return (month + 2) / 3;
        }

        long timeField(int field) {
            switch (field) {
                case HOUR:
                    return part(NANOS_PER_HOUR, 24);
                case MINUTE:
                    return part(NANOS_PER_MINUTE, 60);
                case SECOND:
                    return part(NANOS_PER_SECOND, 60);
                case NANO_OF_SECOND:
                    return part(1, NANOS_PER_SECOND);
                case SECOND_OF_DAY:
                    return part(NANOS_PER_SECOND, SECONDS_PER_DAY);
                default:
                    return nano;
            }
        }

        boolean setTimeField(int field, long value) {
            switch (field) {
                case HOUR:
                    return setPart(NANOS_PER_HOUR, 24, value);
                case MINUTE:
                    return setPart(NANOS_PER_MINUTE, 60, value);
                case SECOND:
                    return setPart(NANOS_PER_SECOND, 60, value);
                case NANO_OF_SECOND:
                    return setPart(1, NANOS_PER_SECOND, value);
                case SECOND_OF_DAY:
                    return setPart(NANOS_PER_SECOND, SECONDS_PER_DAY, value);
                default:
                    return setPart(1, NANOS_PER_DAY, value);
            }
        }

        /** A part of the time that is so many nanoseconds long and runs from 0 to below count. */
        private long part(long size, long count) {
            return size > 0 && count > 0 ? nano / size % count : 0;
        }

        private boolean setPart(long size, long count, long value) {
            if (value < 0 || value >= count) {
                return false;
            }
            nano += (value - part(size, count)) * size;
            return true;
        }

        long adjustedDay(int how, int weekday) {
            long today = epochDay();
            switch (how) {
                case 0:
                    return Calendar.weekdayFrom(today + 1, weekday);
                case 1:
                    return Calendar.weekdayFrom(today, weekday);
                case 2:
                    return Calendar.weekdayUpTo(today - 1, weekday);
                case 3:
                    return Calendar.weekdayUpTo(today, weekday);
                case 4:
                    return Calendar.weekdayFrom(today - day + 1, weekday);
                default:
                    return Calendar.weekdayUpTo(today - day + Calendar.monthLength(year, month), weekday);
            }
        }

        int orderAgainst(Stamp other) {
            int order = Long.compare(epochDay(), other.epochDay());
            return order != 0 ? order : Long.compare(nano, other.nano);
        }

        long wholeDaysUntil(Stamp to) {
            long days = to.epochDay() - epochDay();
            if (days > 0 && to.nano < nano) {
                return days - 1;
            }
            return days < 0 && to.nano > nano ? days + 1 : days;
        }

        /** The nanoseconds that the whole days leave; never of the other sign than these. */
        long restUntil(Stamp to) {
            long days = to.epochDay() - epochDay() - wholeDaysUntil(to);
            return days * NANOS_PER_DAY + to.nano - nano;
        }

        /** The times are given apart, for a span looks at dates alone. */
        long monthsUntil(Stamp to, long ownNano, long otherNano) {
            long months = to.monthNumber() - monthNumber();
            int order = Integer.compare(to.day, day);
            if (order == 0) {
                order = Long.compare(otherNano, ownNano);
            }
            if (months > 0 && order < 0) {
                return months - 1;
            }
            return months < 0 && order > 0 ? months + 1 : months;
        }
    }

    /** A rule that gives an offset once in every year. */
    private static final class Rule {
        static final int LAST = -1;

        private int month;
        private int day;
        private int weekday;
        private int second;
        private int offset;

        Rule() {
            month = 1;
            day = 1;
            weekday = 1;
        }

        void become(int newMonth, int newDay, int newWeekday, int newSecond, int newOffset) {
            month = newMonth;
            day = newDay;
            weekday = newWeekday;
            second = newSecond;
            offset = newOffset;
        }

        long momentIn(int year) {
            int near = day == LAST ? Calendar.monthLength(year, month) : day;
            long limit = Calendar.epochDay(year, month, near);
            long found = day == LAST
                    ? Calendar.weekdayUpTo(limit, weekday) : Calendar.weekdayFrom(limit, weekday);
            return found * SECONDS_PER_DAY + second;
        }
    }

    /** Offsets: a first one, then by changes, then by yearly rules. */
    private static final class Zone {
        private int firstOffset;
        private final long[] changeMoments;
        private final int[] changeOffsets;
        private int changeCount;
        private final Rule[] rules;
        private int ruleCount;

        Zone() {
            changeMoments = new long[CHANGE_COUNT];
            changeOffsets = new int[CHANGE_COUNT];
            rules = new Rule[RULE_COUNT];
            for (int i = 0; i < RULE_COUNT; i++) {
                rules[i] = new Rule();
            }
        }

        void startWith(int offset) {
            firstOffset = offset;
            changeCount = 0;
            ruleCount = 0;
        }

        boolean addChange(long moment, int offset) {
            if (ruleCount > 0 || changeCount >= CHANGE_COUNT || moment <= lastChange()) {
                return false;
            }
            changeMoments[changeCount] = moment;
            changeOffsets[changeCount] = offset;
            changeCount++;
            return true;
        }

        boolean addRule(int month, int day, int weekday, int second, int offset) {
            if (ruleCount >= RULE_COUNT) {
                return false;
            }
            rules[ruleCount].become(month, day, weekday, second, offset);
            ruleCount++;
            return true;
        }

        /** The moment of the last change, NO_MOMENT (which is before all others) without changes. */
        private long lastChange() {
            return changeCount > 0 ? changeMoments[changeCount - 1] : NO_MOMENT;
        }

        int offsetAt(long moment) {
            int answer = offsetByChanges(moment);
            int year = Calendar.yearOfDay(Math.floorDiv(moment, SECONDS_PER_DAY));
            long latest = lastChange();
            // Rule by rule, not year by year: one rule's moment of a year may be the other one's of
            // the next year, and then too the rule that was added later has the last word.
            for (int i = 0; i < ruleCount; i++) {
                // A rule's day may run over into the next year, so the rule may have had its last
                // moment two years ago, counted by the years it belongs to.
                for (int y = Math.max(year - 2, FIRST_YEAR); y <= Math.min(year, LAST_YEAR); y++) {
                    long start = rules[i].momentIn(y);
                    if (start <= moment && start > lastChange() && start >= latest) {
                        latest = start;
                        answer = rules[i].offset;
                    }
                }
            }
            return answer;
        }

        private int offsetByChanges(long moment) {
            int answer = firstOffset;
            for (int i = 0; i < changeCount && changeMoments[i] <= moment; i++) {
                answer = changeOffsets[i];
            }
            return answer;
        }

        /** The first or last moment that shows these seconds, NO_MOMENT if none does. */
        long momentOf(long local, boolean later) {
            long found = NO_MOMENT;
            for (int i = 0; i < 1 + changeCount + ruleCount; i++) {
                int offset = offsetOfKind(i);
                long moment = local - offset;
                boolean isBetter = found == NO_MOMENT || (later ? moment > found : moment < found);
                if (isBetter && offsetAt(moment) == offset) {
                    found = moment;
                }
            }
            return found;
        }

        /** All offsets by number: the first one, then those of the changes, then those of the rules. */
        private int offsetOfKind(int number) {
            if (number <= 0) {
                return firstOffset;
            }
            if (number <= changeCount) {
                return changeOffsets[number - 1];
            }
            int rule = number - 1 - changeCount;
            return rule < ruleCount ? rules[rule].offset : firstOffset;
        }

        /** The offset just before the first moment that shows later seconds than these, which none shows. */
        int offsetBeforeGap(long local) {
            // Every moment behind this one shows later seconds, whatever the offset.
            long end = local + MOST_OFFSET + 1;
            for (int i = 0; i < changeCount; i++) {
                if (changeMoments[i] + changeOffsets[i] > local) {
                    end = Math.min(end, changeMoments[i]);
                }
            }
            int year = Calendar.yearOfDay(Math.floorDiv(local, SECONDS_PER_DAY));
            // No rule of another year has a moment within the greatest offset of these seconds.
            for (int y = Math.max(year - 1, FIRST_YEAR); y <= Math.min(year + 1, LAST_YEAR); y++) {
                for (int i = 0; i < ruleCount; i++) {
                    long start = rules[i].momentIn(y);
                    if (start < end && start + offsetAt(start) > local) {
                        end = start;
                    }
                }
            }
            return offsetAt(end - 1);
        }
    }

    /** The line that is typed and then read as a date and time. */
    private static final class Line {
        private final char[] chars;
        private int length;
        private int place;

        Line() {
            chars = new char[LINE_LENGTH];
        }

        boolean append(char c) {
            if (c < 32 || c > 126 || length >= LINE_LENGTH) {
                return false;
            }
            chars[length] = c;
            length++;
            return true;
        }

        void clear() {
            length = 0;
        }

        boolean readInto(Stamp stamp) {
            place = 0;
            boolean isMinus = skip('-');
            int digits = number(4);
            if (isMinus && digits == 0 || digits < 0) {
                return false;
            }
            int year = isMinus ? -digits : digits;
            int month = skip('-') ? number(2) : -1;
            int day = skip('-') ? number(2) : -1;
            if (!Calendar.isDate(year, month, day)) {
                return false;
            }
            long nano = isAtEnd() ? 0 : timeOfDay();
            if (nano < 0 || !isAtEnd()) {
                return false;
            }
            stamp.setDate(year, month, day);
            stamp.setNano(nano);
            return true;
        }

        /** T, hour, minute and what may follow, in nanoseconds; -1 if there is no such time. */
        private long timeOfDay() {
            int hour = skip('T') ? number(2) : -1;
            int minute = skip(':') ? number(2) : -1;
            int second = 0;
            int nano = 0;
            if (!isAtEnd()) {
                second = skip(':') ? number(2) : -1;
                nano = isAtEnd() ? 0 : fraction();
            }
            if (!Calendar.isTime(hour, minute, second, nano)) {
                return -1;
            }
            return Calendar.nanoOfDay(hour, minute, second, nano);
        }

        /** A point and one to nine digits, in nanoseconds; -1 if they are not there. */
        private int fraction() {
            if (!skip('.') || !isDigitNext()) {
                return -1;
            }
            int value = 0;
            for (int i = 0; i < 9; i++) {
                value = value * 10 + (isDigitNext() ? nextDigit() : 0);
            }
            return value;
        }

        /** The number of just so many digits; -1 if they are not there. */
        private int number(int count) {
            int value = 0;
            for (int i = 0; i < count; i++) {
                if (!isDigitNext()) {
                    return -1;
                }
                value = value * 10 + nextDigit();
            }
            return value;
        }

        private boolean isAtEnd() {
            return place >= length;
        }

        private char next() {
            return place >= 0 && place < length && place < LINE_LENGTH ? chars[place] : 0;
        }

        private boolean isDigitNext() {
            return next() >= '0' && next() <= '9';
        }

        private int nextDigit() {
            int digit = next() - '0';
            place++;
            return digit;
        }

        private boolean skip(char c) {
            if (next() != c) {
                return false;
            }
            place++;
            return true;
        }
    }

    /** The text of a date and time. */
    private static final class Page {
        private final char[] chars;
        private int length;

        Page() {
            chars = new char[LINE_LENGTH];
        }

        int characterAt(int k) {
            if (k < 0 || k >= length || k >= LINE_LENGTH) {
                return -1;
            }
            return chars[k];
        }

        void write(Stamp stamp) {
            length = 0;
            if (stamp.year < 0) {
                append('-');
            }
            appendDigits(Math.abs(stamp.year), 4);
            append('-');
            appendDigits(stamp.month, 2);
            append('-');
            appendDigits(stamp.day, 2);
            append('T');
            appendDigits(stamp.timeField(HOUR), 2);
            append(':');
            appendDigits(stamp.timeField(MINUTE), 2);
            if (stamp.nano % NANOS_PER_MINUTE != 0) {
                append(':');
                appendDigits(stamp.timeField(SECOND), 2);
                appendFraction(stamp.timeField(NANO_OF_SECOND));
            }
        }

        private void appendFraction(long nano) {
            if (nano == 0) {
                return;
            }
            append('.');
            if (nano % 1000000 == 0) {
                appendDigits(nano / 1000000, 3);
            } else if (nano % 1000 == 0) {
                appendDigits(nano / 1000, 6);
            } else {
                appendDigits(nano, 9);
            }
        }

        private void append(char c) {
            if (length < LINE_LENGTH) {
                chars[length] = c;
                length++;
            }
        }

        private void appendDigits(long value, int count) {
            if (length + count > LINE_LENGTH) {
                return;
            }
            long rest = value;
            for (int i = length + count - 1; i >= length; i--) {
                chars[i] = (char) ('0' + rest % 10);
                rest /= 10;
            }
            length += count;
        }
    }
}

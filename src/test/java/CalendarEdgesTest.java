import java.time.LocalDateTime;

/**
 * The boundary cases of THE CALENDAR, the slots and promises 1 to 5 and 10, sentence by sentence: the last
 * value that is taken and the first one that is not, on both sides.
 */
public final class CalendarEdgesTest {
    private static final int[] NO_SLOTS = {-1, 8, Integer.MIN_VALUE, Integer.MAX_VALUE};
    private static final String LEAP = "2024-02-29T13:05:09.12";
    private static final String COMMON = "2023-01-31T00:00";

    public static void main(String[] args) {
        newObject();
        firstAndLastSlot();
        for (int slot : NO_SLOTS) {
            noSuchSlot(slot);
        }
        years();
        leapYears();
        months();
        times();
        fieldsAtTheEnds();
        noSuchField();
        settingDates();
        settingWeekdays();
        settingTimes();
        settingQuarters();
        valuesOfNoField();
        fieldIsLookedAtBeforeValue();
        copies();
        Check.end();
    }

    /** "All slots 1970, 1, 1, time 0; zones with the offset 0." */
    private static void newObject() {
        TimeDesk desk = new TimeDesk();
        for (int slot = 0; slot < 8; slot++) {
            Check.due("new slot " + slot, Desk.take(desk, slot), LocalDateTime.of(1970, 1, 1, 0, 0));
        }
        for (int zone = 0; zone < 4; zone++) {
            for (long moment : new long[] {Edge.FIRST_MOMENT, -1, 0, Edge.LAST_MOMENT}) {
                Check.due("new zone " + zone, desk.offset(zone, moment), 0);
            }
            Check.due("changes that a new zone takes", Edge.changesTaken(desk, zone), 8);
            Check.due("rules that a new zone takes", Edge.rulesTaken(desk, zone), 2);
        }
        Check.due("characters that a new line takes", Edge.room(desk), 30);
    }

    /** "SLOTS 0 .. 7": every call takes the first and the last one. */
    private static void firstAndLastSlot() {
        for (int slot : new int[] {0, 7}) {
            TimeDesk desk = new TimeDesk();
            int other = 7 - slot;
            desk.date(slot, 2000, 2, 29);
            desk.time(slot, 1, 2, 3, 4);
            Check.due("get", desk.get(slot, 4), 11016);
            desk.with(slot, 7, 9);
            desk.plus(slot, 1, 7);
            Check.due("text", Desk.text(desk, slot), "2000-03-01T01:09:03.000000004");
            Check.due("until", desk.until(slot, other, 7), -11017);
            Check.due("until other", desk.until(other, slot, 7), 11017);
            Check.due("span", desk.span(slot, other, 1), -2);
            Check.due("span other", desk.span(other, slot, 1), 2);
            desk.adjust(slot, 0, 3);
            Check.due("adjusted", Desk.text(desk, slot), "2000-03-08T01:09:03.000000004");
            Check.due("the other stays", Desk.text(desk, other), "1970-01-01T00:00");
            Check.due("moment", desk.moment(slot, 0, false), 952477743L);
            Check.due("julian", desk.julian(slot), (11024 + 2440587.5) + 4143000000004L / 8.64E13);
            Check.due("copy", desk.copy(slot, other), -1);
            Check.due("copied", Desk.text(desk, other), "2000-03-08T01:09:03.000000004");
            desk.show(slot, 0, 59);
            Check.due("shown", Desk.text(desk, slot), "1970-01-01T00:00:59");
            Desk.type(desk, "2001-01-01");
            desk.parse(slot);
            Check.due("read", Desk.text(desk, slot), "2001-01-01T00:00");
        }
    }

    /** "No such slot: IndexOutOfBoundsException, looked at first": once all else is right, once all else is wrong. */
    private static void noSuchSlot(int slot) {
        no("date", desk -> desk.date(slot, 2000, 1, 1), desk -> desk.date(slot, 10000, 13, 32));
        no("time", desk -> desk.time(slot, 1, 1, 1, 1), desk -> desk.time(slot, 24, 60, 60, 1000000000));
        no("get", desk -> desk.get(slot, 0), desk -> desk.get(slot, 16));
        no("with", desk -> desk.with(slot, 0, 2000), desk -> desk.with(slot, 16, Long.MAX_VALUE));
        no("with a wrong value", desk -> desk.with(slot, 0, 10000), desk -> desk.with(slot, 13, 0));
        no("plus", desk -> desk.plus(slot, 1, 7), desk -> desk.plus(slot, Long.MAX_VALUE, 14));
        no("plus beyond the years", desk -> desk.plus(slot, Long.MAX_VALUE, 7), desk -> desk.plus(slot, 1, -1));
        no("until", desk -> desk.until(slot, 1, 7), desk -> desk.until(slot, 8, 14));
        no("until other", desk -> desk.until(1, slot, 7), desk -> desk.until(1, slot, 14));
        no("span", desk -> desk.span(slot, 1, 0), desk -> desk.span(slot, -1, 3));
        no("span other", desk -> desk.span(1, slot, 0), desk -> desk.span(1, slot, -1));
        no("adjust", desk -> desk.adjust(slot, 0, 1), desk -> desk.adjust(slot, 6, 8));
        no("copy", desk -> desk.copy(slot, 0), desk -> desk.copy(slot, slot));
        no("copy other", desk -> desk.copy(0, slot), desk -> desk.copy(8, slot));
        no("moment", desk -> desk.moment(slot, 0, false), desk -> desk.moment(slot, 4, true));
        no("show", desk -> desk.show(slot, 0, 0), desk -> desk.show(slot, 4, Long.MAX_VALUE));
        no("show beyond", desk -> desk.show(slot, 0, Edge.LAST_MOMENT + 1), desk -> desk.show(slot, -1, 0));
        no("julian", desk -> desk.julian(slot), desk -> desk.julian(slot));
        no("parse", desk -> desk.parse(slot), desk -> desk.parse(slot));
        no("text", desk -> desk.text(slot, 0), desk -> desk.text(slot, -1));
    }

    private static void no(String told, Edge.Call right, Edge.Call wrong) {
        Edge.throwsOn(told, Edge.INDEX, right);
        Edge.throwsOn(told + ", wrong in two ways", Edge.INDEX, wrong);
    }

    private static void date(int year, int month, int day) {
        String told = "date(0, " + year + ", " + month + ", " + day + ")";
        TimeDesk desk = Edge.holding(LEAP);
        Class<?> thrown = Check.thrown(() -> { desk.date(0, year, month, day); return 0; });
        Check.due(told + " throws " + thrown, thrown == null, true);
        Check.due(told, Desk.take(desk, 0), LocalDateTime.of(year, month, day, 13, 5, 9, 120000000));
    }

    private static void noDate(int year, int month, int day) {
        Edge.throwsAt(LEAP, "date(0, " + year + ", " + month + ", " + day + ")", Edge.ARGUMENT,
                desk -> desk.date(0, year, month, day));
    }

    /** "YEARS -9999 .. 9999". */
    private static void years() {
        date(-9999, 1, 1);
        date(9999, 12, 31);
        noDate(-10000, 12, 31);
        noDate(10000, 1, 1);
        noDate(Integer.MIN_VALUE, 1, 1);
        noDate(Integer.MAX_VALUE, 1, 1);
        Check.due("the first epoch day", Edge.holding(Edge.FIRST).get(0, 4), -4371587);
        Check.due("the last epoch day", Edge.holding(Edge.LAST).get(0, 4), 2932896);
    }

    /** "a year is a LEAP year if 4 divides it and 100 does not, or 400 does". */
    private static void leapYears() {
        for (int year : new int[] {-9996, -2000, -800, -404, -400, -396, -104, -96, -4, 0, 4, 96, 104, 396, 400, 404,
            800, 1600, 1996, 2000, 2004, 9600, 9996}) {
            date(year, 2, 29);
            noDate(year, 2, 30);
            daysOf(year, 366);
        }
        for (int year : new int[] {-9999, -9900, -2100, -500, -401, -300, -200, -100, -99, -3, -2, -1, 1, 2, 3, 100,
            101, 200, 300, 500, 1800, 1900, 1999, 2001, 2002, 2003, 2100, 9900, 9999}) {
            date(year, 2, 28);
            noDate(year, 2, 29);
            daysOf(year, 365);
        }
    }

    private static void daysOf(int year, int want) {
        TimeDesk desk = new TimeDesk();
        desk.date(0, year, 12, 31);
        Check.due("days of " + year, desk.get(0, 3), want);
        desk.with(0, 3, want);
        Check.due("the last of them", Desk.take(desk, 0), LocalDateTime.of(year, 12, 31, 0, 0));
    }

    /** "Months 1 .. 12 have 31, 28 (29 in leap years), 31, ..". */
    private static void months() {
        int[] lengths = {31, 28, 31, 30, 31, 30, 31, 31, 30, 31, 30, 31};
        for (int month = 1; month <= 12; month++) {
            date(2023, month, 1);
            noDate(2023, month, 0);
            date(2023, month, lengths[month - 1]);
            noDate(2023, month, lengths[month - 1] + 1);
        }
        noDate(2023, 0, 1);
        noDate(2023, 13, 1);
        for (int extreme : new int[] {-1, Integer.MIN_VALUE, Integer.MAX_VALUE}) {
            noDate(2023, extreme, 1);
            noDate(2023, 1, extreme);
        }
    }

    private static void time(int hour, int minute, int second, int nano) {
        String told = "time(0, " + hour + ", " + minute + ", " + second + ", " + nano + ")";
        TimeDesk desk = Edge.holding(LEAP);
        Class<?> thrown = Check.thrown(() -> { desk.time(0, hour, minute, second, nano); return 0; });
        Check.due(told + " throws " + thrown, thrown == null, true);
        Check.due(told, Desk.take(desk, 0), LocalDateTime.of(2024, 2, 29, hour, minute, second, nano));
    }

    private static void noTime(int hour, int minute, int second, int nano) {
        Edge.throwsAt(LEAP, "time(0, " + hour + ", " + minute + ", " + second + ", " + nano + ")", Edge.ARGUMENT,
                desk -> desk.time(0, hour, minute, second, nano));
    }

    /** "hour is not 0 .. 23, minute or second not 0 .. 59, or nano not 0 .. 999999999". */
    private static void times() {
        time(0, 0, 0, 0);
        time(23, 59, 59, 999999999);
        time(23, 0, 0, 0);
        time(0, 59, 0, 0);
        time(0, 0, 59, 0);
        time(0, 0, 0, 999999999);
        Check.due("the last time", Edge.holding(Edge.LAST).get(0, 11), 86399999999999L);
        for (int least : new int[] {-1, Integer.MIN_VALUE}) {
            noTime(least, 0, 0, 0);
            noTime(0, least, 0, 0);
            noTime(0, 0, least, 0);
            noTime(0, 0, 0, least);
            noTime(least, least, least, least);
        }
        noTime(24, 0, 0, 0);
        noTime(0, 60, 0, 0);
        noTime(0, 0, 60, 0);
        noTime(0, 0, 0, 1000000000);
        for (int part = 0; part < 4; part++) {
            int[] parts = {1, 1, 1, 1};
            parts[part] = Integer.MAX_VALUE;
            noTime(parts[0], parts[1], parts[2], parts[3]);
        }
    }

    /** Each field at its least and its greatest value. */
    private static void fieldsAtTheEnds() {
        long[] first = {-9999, 1, 1, 1, -4371587, 1, 0, 0, 0, 0, 0, 0, 1, 1, -9999, -119988};
        long[] last = {9999, 12, 31, 365, 2932896, 5, 23, 59, 59, 999999999, 86399, 86399999999999L, 4, 52, 9999,
            119999};
        for (int field = 0; field <= 15; field++) {
            Check.due("field " + field + " of the first", Edge.holding(Edge.FIRST).get(0, field), first[field]);
            Check.due("field " + field + " of the last", Edge.holding(Edge.LAST).get(0, field), last[field]);
        }
        // Weeks belong to the year of their Thursday: 53 of them, and days of the years beside it.
        week("2020-12-31T00:00", 53, 2020);
        week("2021-01-03T00:00", 53, 2020);
        week("2021-01-04T00:00", 1, 2021);
        week("2024-12-29T00:00", 52, 2024);
        week("2024-12-30T00:00", 1, 2025);
        week("2025-01-05T00:00", 1, 2025);
        week("2025-01-06T00:00", 2, 2025);
        // A year that begins with a Thursday, and one that begins with a Friday.
        week("2014-12-28T00:00", 52, 2014);
        week("2014-12-29T00:00", 1, 2015);
        week("2015-01-01T00:00", 1, 2015);
        week("2015-01-05T00:00", 2, 2015);
        week("2015-01-08T00:00", 2, 2015);
        week("2016-01-01T00:00", 53, 2015);
        week("2016-01-03T00:00", 53, 2015);
        week("2016-01-04T00:00", 1, 2016);
        week("0000-01-01T00:00", 52, -1);
        week("0000-01-02T00:00", 52, -1);
        week("0000-01-03T00:00", 1, 0);
        int[] quarters = {1, 1, 1, 2, 2, 2, 3, 3, 3, 4, 4, 4};
        for (int month = 1; month <= 12; month++) {
            TimeDesk desk = new TimeDesk();
            desk.date(0, 2023, month, 1);
            Check.due("quarter of month " + month, desk.get(0, 12), quarters[month - 1]);
        }
        Check.due("months of year 0", Edge.holding("0000-01-01T00:00").get(0, 15), 0);
        Check.due("months before", Edge.holding("-0001-12-31T00:00").get(0, 15), -1);
        Check.due("the day before the epoch", Edge.holding("1969-12-31T00:00").get(0, 4), -1);
        Check.due("a Wednesday", Edge.holding("1969-12-31T00:00").get(0, 5), 3);
    }

    private static void week(String when, int week, int year) {
        Check.due("week of " + when, Edge.holding(when).get(0, 13), week);
        Check.due("week's year of " + when, Edge.holding(when).get(0, 14), year);
    }

    /** "there is no such field", and "field is not 0 .. 12 or 15". */
    private static void noSuchField() {
        for (int field : new int[] {-1, 16, Integer.MIN_VALUE, Integer.MAX_VALUE}) {
            Edge.throwsOn("get " + field, Edge.SUPPORT, desk -> desk.get(0, field));
            Edge.throwsOn("with " + field, Edge.SUPPORT, desk -> desk.with(0, field, 1));
        }
        for (int field : new int[] {13, 14}) {
            Edge.throwsOn("with " + field, Edge.SUPPORT, desk -> desk.with(0, field, 1));
            Edge.throwsOn("with " + field, Edge.SUPPORT, desk -> desk.with(0, field, desk.get(0, field)));
        }
    }

    private static void set(String from, int field, long value, String to) {
        Edge.leads(from, "with " + field + ", " + value, desk -> desk.with(0, field, value), to);
    }

    private static void noValue(String from, int field, long... values) {
        for (long value : values) {
            Edge.throwsAt(from, "with " + field + ", " + value, Edge.ARGUMENT, desk -> desk.with(0, field, value));
        }
    }

    /** "the day is then at most the month's last", "of that month or year", "it would be beyond the years". */
    private static void settingDates() {
        set(LEAP, 0, -9999, "-9999-02-28T13:05:09.12");
        set(LEAP, 0, 9999, "9999-02-28T13:05:09.12");
        set(LEAP, 0, 2028, "2028-02-29T13:05:09.12");
        noValue(LEAP, 0, -10000, 10000);
        set(COMMON, 1, 1, COMMON);
        set(COMMON, 1, 2, "2023-02-28T00:00");
        set("2024-01-31T00:00", 1, 2, "2024-02-29T00:00");
        set("2023-01-30T00:00", 1, 4, "2023-04-30T00:00");
        set(COMMON, 1, 4, "2023-04-30T00:00");
        set(COMMON, 1, 12, "2023-12-31T00:00");
        noValue(COMMON, 1, 0, 13, -1);
        set(COMMON, 2, 1, "2023-01-01T00:00");
        set("2023-01-01T00:00", 2, 31, COMMON);
        noValue(COMMON, 2, 0, 32, -1);
        set("2023-04-01T00:00", 2, 30, "2023-04-30T00:00");
        noValue("2023-04-01T00:00", 2, 31);
        set("2023-02-01T00:00", 2, 28, "2023-02-28T00:00");
        noValue("2023-02-01T00:00", 2, 29);
        set("2024-02-01T00:00", 2, 29, "2024-02-29T00:00");
        noValue("2024-02-01T00:00", 2, 30);
        set(LEAP, 3, 1, "2024-01-01T13:05:09.12");
        set(LEAP, 3, 366, "2024-12-31T13:05:09.12");
        noValue(LEAP, 3, 0, 367, -1);
        set(COMMON, 3, 59, "2023-02-28T00:00");
        set(COMMON, 3, 60, "2023-03-01T00:00");
        set(COMMON, 3, 365, "2023-12-31T00:00");
        noValue(COMMON, 3, 0, 366);
        set(LEAP, 4, -4371587, "-9999-01-01T13:05:09.12");
        set(LEAP, 4, 2932896, "9999-12-31T13:05:09.12");
        noValue(LEAP, 4, -4371588, 2932897);
        set(COMMON, 15, -119988, "-9999-01-31T00:00");
        set(COMMON, 15, 119999, "9999-12-31T00:00");
        set(COMMON, 15, -119987, "-9999-02-28T00:00");
        noValue(COMMON, 15, -119989, 120000);
        // So many months that their years would be right ones if they were cut to an int.
        noValue(COMMON, 15, 12L << 32, -(12L << 32), (12L << 32) + 23640, -(12L << 33) + 1);
    }

    /** "days (within the week) .. are added that lead there", "it would be beyond the years". */
    private static void settingWeekdays() {
        set("2025-01-01T07:00", 5, 1, "2024-12-30T07:00");
        set("2025-01-01T07:00", 5, 3, "2025-01-01T07:00");
        set("2025-01-01T07:00", 5, 7, "2025-01-05T07:00");
        noValue("2025-01-01T07:00", 5, 0, 8, -1);
        // The first day is a Monday, so that its whole week is there; the last one is a Friday.
        set(Edge.FIRST, 5, 1, Edge.FIRST);
        set(Edge.FIRST, 5, 7, "-9999-01-07T00:00");
        set("-9999-01-07T00:00", 5, 1, Edge.FIRST);
        noValue(Edge.FIRST, 5, 0, 8);
        set(Edge.LAST, 5, 1, "9999-12-27T23:59:59.999999999");
        set(Edge.LAST, 5, 5, Edge.LAST);
        noValue(Edge.LAST, 5, 6, 7, 0, 8);
        set("9999-12-27T00:00", 5, 5, "9999-12-31T00:00");
        noValue("9999-12-27T00:00", 5, 6, 7);
        set("9999-12-26T00:00", 5, 7, "9999-12-26T00:00");
    }

    /** "6 to 11: of the time". */
    private static void settingTimes() {
        String noon = "2025-01-01T12:34:56.123456789";
        set(noon, 6, 0, "2025-01-01T00:34:56.123456789");
        set(noon, 6, 23, "2025-01-01T23:34:56.123456789");
        noValue(noon, 6, -1, 24);
        set(noon, 7, 0, "2025-01-01T12:00:56.123456789");
        set(noon, 7, 59, "2025-01-01T12:59:56.123456789");
        noValue(noon, 7, -1, 60);
        set(noon, 8, 0, "2025-01-01T12:34:00.123456789");
        set(noon, 8, 59, "2025-01-01T12:34:59.123456789");
        noValue(noon, 8, -1, 60);
        set(noon, 9, 0, "2025-01-01T12:34:56");
        set(noon, 9, 999999999, "2025-01-01T12:34:56.999999999");
        noValue(noon, 9, -1, 1000000000);
        set(noon, 10, 0, "2025-01-01T00:00:00.123456789");
        set(noon, 10, 86399, "2025-01-01T23:59:59.123456789");
        noValue(noon, 10, -1, 86400);
        set(noon, 11, 0, "2025-01-01T00:00");
        set(noon, 11, 86399999999999L, "2025-01-01T23:59:59.999999999");
        noValue(noon, 11, -1, 86400000000000L);
        set(Edge.LAST, 11, 0, "9999-12-31T00:00");
        set(Edge.FIRST, 11, 86399999999999L, "-9999-01-01T23:59:59.999999999");
    }

    /** "months (within the year) are added that lead there (12 with the day as with month)". */
    private static void settingQuarters() {
        set("2023-01-31T00:00", 12, 1, "2023-01-31T00:00");
        set("2023-01-31T00:00", 12, 2, "2023-04-30T00:00");
        set("2023-03-31T00:00", 12, 4, "2023-12-31T00:00");
        set("2023-11-30T00:00", 12, 1, "2023-02-28T00:00");
        set("2024-11-30T00:00", 12, 1, "2024-02-29T00:00");
        noValue("2023-03-31T00:00", 12, 0, 5, -1);
        set(Edge.FIRST, 12, 4, "-9999-10-01T00:00");
        set(Edge.LAST, 12, 1, "9999-03-31T23:59:59.999999999");
        noValue(Edge.FIRST, 12, 0);
        noValue(Edge.LAST, 12, 5);
    }

    /** Values far out, and such as would be right ones if they were cut to an int or wrapped around. */
    private static void valuesOfNoField() {
        for (int field = 0; field <= 15; field++) {
            if (field == 13 || field == 14) {
                continue;
            }
            noValue(COMMON, field, Long.MIN_VALUE, Long.MAX_VALUE, Integer.MIN_VALUE * 4L, (1L << 62) + 1);
            if (field != 11) {
                noValue(COMMON, field, (1L << 32) + 1, Integer.MAX_VALUE);
            }
        }
    }

    /** "UnsupportedOperationException: ..; else IllegalArgumentException". */
    private static void fieldIsLookedAtBeforeValue() {
        for (int field : new int[] {-1, 13, 14, 16}) {
            for (long value : new long[] {0, -1, 10000000, Long.MIN_VALUE, Long.MAX_VALUE}) {
                Edge.throwsAt(Edge.LAST, "with " + field + ", " + value, Edge.SUPPORT,
                        desk -> desk.with(0, field, value));
            }
        }
    }

    /** "-1, 0, 1: what was there was earlier, the same or later than slot". */
    private static void copies() {
        String[][] pairs = {
            {"2000-01-01T00:00:00.000000001", "2000-01-01T00:00"},
            {"2000-01-02T00:00", "2000-01-01T23:59:59.999999999"},
            {"2000-01-01T00:00", "1999-12-31T23:59:59.999999999"},
            {"2000-02-01T00:00", "2000-01-31T00:00"},
            {"0000-01-01T00:00", "-0001-12-31T23:59:59.999999999"},
            {Edge.LAST, Edge.FIRST},
        };
        for (String[] pair : pairs) {
            copy(pair[0], pair[1], -1);
            copy(pair[1], pair[0], 1);
            copy(pair[0], pair[0], 0);
            copy(pair[1], pair[1], 0);
        }
        TimeDesk desk = Edge.used();
        Check.due("copy to itself", desk.copy(0, 0), 0);
        Check.due("copy to itself changes nothing", Edge.seen(desk), Edge.seen(Edge.used()));
    }

    private static void copy(String from, String to, int want) {
        TimeDesk desk = Edge.holding(from);
        Desk.put(desk, 7, to);
        Check.due("copy " + from + " to " + to, desk.copy(0, 7), want);
        Check.due("copied", Desk.take(desk, 7), LocalDateTime.parse(from));
        Check.due("copied from", Desk.take(desk, 0), LocalDateTime.parse(from));
    }
}

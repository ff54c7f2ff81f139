import java.time.LocalDateTime;

/** The boundary cases of UNITS, ADDING and BETWEEN, and of promises 6 to 9, sentence by sentence. */
public final class AmountEdgesTest {
    /** How many units of 1 to 7 make a day. */
    private static final long[] PER_DAY = {0, 86400000000L, 86400000L, 86400L, 1440L, 24L, 2L, 1L};
    private static final long ALL_DAYS = 7304484L;

    public static void main(String[] args) {
        lastDayOfMonth();
        nanosecondsToTheEnds();
        partsOfDaysToTheEnds();
        weeksAndMonthsToTheEnds();
        sumsThatWrapAround();
        noSuchUnit();
        monthsBetween();
        unitsBetween();
        wholeCalendarBetween();
        noLongBetween();
        spans();
        noSuchSpan();
        weekdaysBesideADay();
        weekdaysOfAMonth();
        weekdaysBeyondTheYears();
        noSuchWeekday();
        Check.end();
    }

    private static void adds(String from, long n, int unit, String to) {
        Edge.leads(from, "plus " + n + " of " + unit, desk -> desk.plus(0, n, unit), to);
    }

    private static void noSum(String from, int unit, long... amounts) {
        for (long n : amounts) {
            Edge.throwsAt(from, "plus " + n + " of " + unit, Edge.ARITHMETIC, desk -> desk.plus(0, n, unit));
        }
    }

    /** "the day is then the last one of the month if it would be greater". */
    private static void lastDayOfMonth() {
        adds("2023-01-28T01:00", 1, 9, "2023-02-28T01:00");
        adds("2023-01-29T01:00", 1, 9, "2023-02-28T01:00");
        adds("2023-01-31T01:00", 1, 9, "2023-02-28T01:00");
        adds("2024-01-29T01:00", 1, 9, "2024-02-29T01:00");
        adds("2024-01-30T01:00", 1, 9, "2024-02-29T01:00");
        adds("2024-03-30T01:00", 1, 9, "2024-04-30T01:00");
        adds("2024-03-31T01:00", 1, 9, "2024-04-30T01:00");
        adds("2024-03-31T01:00", -1, 9, "2024-02-29T01:00");
        adds("2024-02-29T01:00", 1, 9, "2024-03-29T01:00");
        adds("2024-12-31T01:00", 2, 9, "2025-02-28T01:00");
        adds("2024-01-31T01:00", 1, 10, "2024-04-30T01:00");
        adds("2024-05-31T01:00", -1, 10, "2024-02-29T01:00");
        adds("2024-02-29T01:00", 1, 11, "2025-02-28T01:00");
        adds("2024-02-29T01:00", -4, 11, "2020-02-29T01:00");
        adds("2024-02-29T01:00", 1, 12, "2034-02-28T01:00");
        adds("2024-02-29T01:00", 2, 12, "2044-02-29T01:00");
        adds("2000-02-29T01:00", -1, 13, "1900-02-28T01:00");
        adds("2000-02-29T01:00", 4, 13, "2400-02-29T01:00");
        adds("0000-01-31T01:00", -1, 9, "-0001-12-31T01:00");
        for (int unit = 0; unit <= 13; unit++) {
            adds("2024-02-29T01:00", 0, unit, "2024-02-29T01:00");
            adds(Edge.FIRST, 0, unit, Edge.FIRST);
            adds(Edge.LAST, 0, unit, Edge.LAST);
        }
    }

    /** "A date beyond the years is no date": nanoseconds, of which a long does not hold all. */
    private static void nanosecondsToTheEnds() {
        noSum(Edge.LAST, 0, 1, 2, 86400000000000L, Long.MAX_VALUE);
        noSum(Edge.FIRST, 0, -1, -2, -86400000000000L, Long.MIN_VALUE);
        adds("9999-12-31T23:59:59.999999998", 1, 0, Edge.LAST);
        noSum("9999-12-31T23:59:59.999999998", 0, 2);
        adds("-9999-01-01T00:00:00.000000001", -1, 0, Edge.FIRST);
        noSum("-9999-01-01T00:00:00.000000001", 0, -2);
        adds("9999-12-31T00:00", 86399999999999L, 0, Edge.LAST);
        noSum("9999-12-31T00:00", 0, 86400000000000L);
        String ofMost = LocalDateTime.parse(Edge.LAST).minusNanos(Long.MAX_VALUE).toString();
        adds(ofMost, Long.MAX_VALUE, 0, Edge.LAST);
        noSum(LocalDateTime.parse(ofMost).plusNanos(1).toString(), 0, Long.MAX_VALUE);
        String ofLeast = LocalDateTime.parse(Edge.FIRST).plusNanos(Long.MAX_VALUE).plusNanos(1).toString();
        adds(ofLeast, Long.MIN_VALUE, 0, Edge.FIRST);
        noSum(LocalDateTime.parse(ofLeast).minusNanos(1).toString(), 0, Long.MIN_VALUE);
        adds("1970-01-01T00:00", Long.MAX_VALUE, 0, "2262-04-11T23:47:16.854775807");
        adds("1970-01-01T00:00", Long.MIN_VALUE, 0, "1677-09-21T00:12:43.145224192");
    }

    /** "A date beyond the years is no date": from one end of the calendar to the other. */
    private static void partsOfDaysToTheEnds() {
        for (int unit = 1; unit <= 7; unit++) {
            long all = ALL_DAYS * PER_DAY[unit];
            long nanos = 86400000000000L / PER_DAY[unit];
            String lastOne = LocalDateTime.parse("9999-12-31T00:00").plusNanos(86400000000000L - nanos).toString();
            adds(Edge.FIRST, all - 1, unit, lastOne);
            noSum(Edge.FIRST, unit, all, -1);
            adds(lastOne, 1 - all, unit, Edge.FIRST);
            noSum(lastOne, unit, -all, 1);
            String firstOne = LocalDateTime.parse(Edge.FIRST).plusNanos(nanos - 1).toString();
            adds(Edge.LAST, 1 - all, unit, firstOne);
            noSum(Edge.LAST, unit, -all, 1);
            noSum(firstOne, unit, -1);
        }
    }

    private static void weeksAndMonthsToTheEnds() {
        String last = "9999-12-31T00:00";
        reaches(8, 1043497, "9999-12-27T00:00", last, "-9999-01-05T00:00");
        reaches(9, 239987, "9999-12-01T00:00", last, "-9999-01-31T00:00");
        reaches(10, 79995, "9999-10-01T00:00", last, "-9999-03-31T00:00");
        reaches(11, 19998, "9999-01-01T00:00", last, "-9999-12-31T00:00");
        reaches(12, 1999, "9991-01-01T00:00", last, "-9991-12-31T00:00");
        reaches(13, 199, "9901-01-01T00:00", last, "-9901-12-31T00:00");
        noSum("-9999-01-31T00:00", 9, -1);
        adds("-9999-02-28T00:00", -1, 9, "-9999-01-28T00:00");
        noSum("9999-12-01T00:00", 9, 1);
        adds("9999-11-30T00:00", 1, 9, "9999-12-30T00:00");
        adds("9999-09-30T00:00", 1, 10, "9999-12-30T00:00");
        noSum("9999-10-01T00:00", 10, 1);
        adds("-9999-04-01T00:00", -1, 10, "-9999-01-01T00:00");
        noSum("-9999-03-31T00:00", 10, -1);
        adds("9999-12-24T00:00", 1, 8, last);
        noSum("9999-12-25T00:00", 8, 1);
        adds("-9999-01-08T00:00", -1, 8, Edge.FIRST);
        noSum("-9999-01-07T23:59:59.999999999", 8, -1);
    }

    /** So many of a unit lead from the first day to one, from a last day to another; one more leads beyond. */
    private static void reaches(int unit, long most, String behindFirst, String last, String beforeLast) {
        adds(Edge.FIRST, most, unit, behindFirst);
        noSum(Edge.FIRST, unit, most + 1, -1);
        adds(last, -most, unit, beforeLast);
        noSum(last, unit, -most - 1, 1);
    }

    /** Amounts whose nanoseconds, days or months would be small again if they wrapped around. */
    private static void sumsThatWrapAround() {
        String when = "2000-06-15T12:00";
        long[] wrapping = {0, 1L << 61, 1L << 58, 1L << 55, 1L << 53, 1L << 51, 1L << 49, 1L << 48,
            7905747460161236407L, 0, -6148914691236517205L, 1L << 62, 1L << 61, 1L << 60};
        for (int unit = 1; unit <= 13; unit++) {
            noSum(when, unit, Long.MIN_VALUE, Long.MIN_VALUE + 1, Long.MAX_VALUE);
            if (wrapping[unit] != 0) {
                noSum(when, unit, wrapping[unit], -wrapping[unit]);
            }
            if (unit >= 7) {
                noSum(when, unit, 1L << 32, -(1L << 32), (1L << 32) + 1, 7304485, -7304485);
            }
        }
    }

    /** "UnsupportedOperationException: there is no such unit; else ArithmeticException". */
    private static void noSuchUnit() {
        for (int unit : new int[] {-1, 14, Integer.MIN_VALUE, Integer.MAX_VALUE}) {
            for (long n : new long[] {0, 1, Long.MIN_VALUE, Long.MAX_VALUE}) {
                Edge.throwsAt(Edge.LAST, "plus " + n + " of " + unit, Edge.SUPPORT, desk -> desk.plus(0, n, unit));
            }
            Edge.throwsAt(Edge.LAST, "until itself in " + unit, Edge.SUPPORT, desk -> desk.until(0, 0, unit));
            // Slot 1 holds the first date: the nanoseconds between the two are no long.
            Edge.throwsAt(Edge.LAST, "until the first in " + unit, Edge.SUPPORT, desk -> desk.until(0, 1, unit));
        }
    }

    private static void between(String from, String to, int unit, long want) {
        TimeDesk desk = Edge.holding(from);
        Desk.put(desk, 7, to);
        String told = "from " + from + " until " + to + " in " + unit;
        Class<?> thrown = Check.thrown(() -> desk.until(0, 7, unit));
        Check.due(told + " throws " + thrown, thrown == null, true);
        Check.due(told, thrown == null ? desk.until(0, 7, unit) : 0, want);
        Check.due(told + " leaves both", Desk.take(desk, 0) + " " + Desk.take(desk, 7),
                LocalDateTime.parse(from) + " " + LocalDateTime.parse(to));
    }

    /** "1 less, if b is later than a and its day of month and time are before a's, 1 more, ..". */
    private static void monthsBetween() {
        String[] later = {"2024-03-15T11:59:59.999999999", "2024-03-15T12:00", "2024-03-15T12:00:00.000000001",
            "2024-03-14T23:59:59.999999999", "2024-03-16T00:00"};
        long[] want = {1, 2, 2, 1, 2};
        for (int i = 0; i < later.length; i++) {
            between("2024-01-15T12:00", later[i], 9, want[i]);
        }
        String[] earlier = {"2023-11-15T12:00:00.000000001", "2023-11-15T12:00", "2023-11-15T11:59:59.999999999",
            "2023-11-16T00:00", "2023-11-14T23:59:59.999999999"};
        for (int i = 0; i < earlier.length; i++) {
            between("2024-01-15T12:00", earlier[i], 9, -want[i]);
        }
        // Within one month it is none, whatever the day and time.
        between("2024-01-15T12:00", "2024-01-01T00:00", 9, 0);
        between("2024-01-15T12:00", "2024-01-31T23:59:59.999999999", 9, 0);
        between("2024-01-15T12:00", "2024-01-15T12:00", 9, 0);
        between("2024-01-15T12:00", "2024-01-15T12:00:00.000000001", 9, 0);
        between("2024-01-15T12:00", "2024-01-15T11:59:59.999999999", 9, 0);
        // The last day of a shorter month is still before the 31st.
        between("2024-01-31T00:00", "2024-02-29T23:59:59.999999999", 9, 0);
        between("2024-01-31T00:00", "2024-03-31T00:00", 9, 2);
        between("2024-02-29T00:00", "2024-01-31T00:00", 9, 0);
        between("2024-02-29T00:00", "2024-01-29T00:00", 9, -1);
        // From year -1 over year 0.
        between("-0001-12-31T00:00", "0000-01-31T00:00", 9, 1);
        between("0000-01-01T00:00", "-0001-12-01T00:00", 9, -1);
        int[] months = {1, 3, 12, 120, 1200};
        for (int unit = 9; unit <= 13; unit++) {
            LocalDateTime from = LocalDateTime.parse("2000-01-15T12:00");
            edge(from, from.plusMonths(months[unit - 9]), from.minusMonths(months[unit - 9]), unit);
        }
    }

    /** "divided by those of the unit, without rest": a nanosecond less than the unit is none of it. */
    private static void unitsBetween() {
        long[] nanos = {1, 1000, 1000000, 1000000000L, 60000000000L, 3600000000000L, 43200000000000L,
            86400000000000L, 604800000000000L};
        for (int unit = 0; unit <= 8; unit++) {
            for (String when : new String[] {"2000-01-01T00:00", "1999-12-31T23:59:59.999999999", "2000-06-15T12:00"}) {
                LocalDateTime from = LocalDateTime.parse(when);
                edge(from, from.plusNanos(nanos[unit]), from.minusNanos(nanos[unit]), unit);
            }
        }
    }

    private static void edge(LocalDateTime from, LocalDateTime oneLater, LocalDateTime oneEarlier, int unit) {
        String when = from.toString();
        between(when, when, unit, 0);
        between(when, oneLater.toString(), unit, 1);
        between(when, oneEarlier.toString(), unit, -1);
        between(when, oneLater.minusNanos(1).toString(), unit, 0);
        between(when, oneEarlier.plusNanos(1).toString(), unit, 0);
        between(when, oneLater.plusNanos(1).toString(), unit, unit == 0 ? 2 : 1);
        between(when, oneEarlier.minusNanos(1).toString(), unit, unit == 0 ? -2 : -1);
    }

    private static void wholeCalendarBetween() {
        long[] want = {0, 631107417599999999L, 631107417599999L, 631107417599L, 10518456959L, 175307615L, 14608967L,
            7304483L, 1043497L, 239987L, 79995L, 19998L, 1999L, 199L};
        for (int unit = 1; unit <= 13; unit++) {
            between(Edge.FIRST, Edge.LAST, unit, want[unit]);
            between(Edge.LAST, Edge.FIRST, unit, -want[unit]);
        }
    }

    /** "ArithmeticException: it is no long". */
    private static void noLongBetween() {
        for (String when : new String[] {Edge.FIRST, "1970-01-01T00:00", "1999-12-31T23:59:59.999999999",
            "9000-06-15T12:34:56.789"}) {
            LocalDateTime from = LocalDateTime.parse(when);
            LocalDateTime most = from.plusNanos(Long.MAX_VALUE);
            between(when, most.toString(), 0, Long.MAX_VALUE);
            between(when, most.minusNanos(1).toString(), 0, Long.MAX_VALUE - 1);
            between(most.toString(), when, 0, -Long.MAX_VALUE);
            between(most.plusNanos(1).toString(), when, 0, Long.MIN_VALUE);
            noLong(when, most.plusNanos(1).toString());
            noLong(when, most.plusDays(1).toString());
            noLong(most.plusNanos(2).toString(), when);
            noLong(most.plusDays(1).toString(), when);
        }
        noLong(Edge.FIRST, Edge.LAST);
        noLong(Edge.LAST, Edge.FIRST);
    }

    private static void noLong(String from, String to) {
        Edge.throwsOn("from " + from + " until " + to, Edge.ARITHMETIC, desk -> {
            Desk.put(desk, 0, from);
            Desk.put(desk, 7, to);
        }, desk -> desk.until(0, 7, 0));
        between(from, to, 1, LocalDateTime.parse(from).until(LocalDateTime.parse(to),
                java.time.temporal.ChronoUnit.MICROS));
    }

    private static void span(String from, String to, int years, int months, int days) {
        TimeDesk desk = Edge.holding(from);
        Desk.put(desk, 7, to);
        int[] want = {years, months, days};
        for (int what = 0; what <= 2; what++) {
            Check.due("span " + what + " from " + from + " to " + to, desk.span(0, 7, what), want[what]);
        }
        Check.due("a span leaves both", Desk.take(desk, 0) + " " + Desk.take(desk, 7),
                LocalDateTime.parse(from) + " " + LocalDateTime.parse(to));
    }

    /** "months as BETWEEN with times 0, then days from the date that many months later". */
    private static void spans() {
        span("2024-01-15T23:59", "2024-02-15T00:00", 0, 1, 0);
        span("2024-01-15T00:00", "2024-02-14T23:59", 0, 0, 30);
        span("2024-02-15T00:00", "2024-01-15T23:59", 0, -1, 0);
        span("2024-02-15T00:00", "2024-01-16T00:00", 0, 0, -30);
        span("2024-02-15T23:59", "2024-02-15T00:00", 0, 0, 0);
        span("2023-02-28T00:00", "2024-02-28T00:00", 1, 0, 0);
        span("2023-02-28T00:00", "2024-02-27T00:00", 0, 11, 30);
        span("2024-02-29T00:00", "2025-02-28T00:00", 0, 11, 30);
        span("2025-02-28T00:00", "2024-02-29T00:00", 0, -11, -28);
        span("2024-01-31T00:00", "2024-02-29T00:00", 0, 0, 29);
        span("2024-01-31T00:00", "2024-03-01T00:00", 0, 1, 1);
        span("2023-12-31T00:00", "2024-01-30T00:00", 0, 0, 30);
        span("2024-03-31T00:00", "2024-02-29T00:00", 0, -1, 0);
        span("2024-03-31T00:00", "2024-02-28T00:00", 0, -1, -1);
        span("-0001-12-31T00:00", "0000-12-31T00:00", 1, 0, 0);
        span(Edge.FIRST, Edge.LAST, 19998, 11, 30);
        span(Edge.LAST, Edge.FIRST, -19998, -11, -30);
        Check.due("a span to itself", Edge.used().span(3, 3, 2), 0);
    }

    /** "UnsupportedOperationException: another what". */
    private static void noSuchSpan() {
        for (int what : new int[] {-1, 3, Integer.MIN_VALUE, Integer.MAX_VALUE}) {
            Edge.throwsOn("span " + what, Edge.SUPPORT, desk -> desk.span(1, 2, what));
        }
    }

    private static void moves(String from, int how, int day, String to) {
        Edge.leads(from, "adjusted by " + how + ", " + day, desk -> desk.adjust(0, how, day), to);
    }

    /** "0 the next one behind it, 1 the next one or itself, 2 the one before it, 3 the one before or itself". */
    private static void weekdaysBesideADay() {
        String wednesday = "2025-01-01T13:00";
        moves(wednesday, 0, 3, "2025-01-08T13:00");
        moves(wednesday, 0, 4, "2025-01-02T13:00");
        moves(wednesday, 0, 2, "2025-01-07T13:00");
        moves(wednesday, 1, 3, wednesday);
        moves(wednesday, 1, 4, "2025-01-02T13:00");
        moves(wednesday, 1, 2, "2025-01-07T13:00");
        moves(wednesday, 2, 3, "2024-12-25T13:00");
        moves(wednesday, 2, 2, "2024-12-31T13:00");
        moves(wednesday, 2, 4, "2024-12-26T13:00");
        moves(wednesday, 3, 3, wednesday);
        moves(wednesday, 3, 2, "2024-12-31T13:00");
        moves(wednesday, 3, 4, "2024-12-26T13:00");
        moves(wednesday, 0, 1, "2025-01-06T13:00");
        moves(wednesday, 0, 7, "2025-01-05T13:00");
        moves(wednesday, 3, 1, "2024-12-30T13:00");
        moves(wednesday, 3, 7, "2024-12-29T13:00");
    }

    /** "4 the first of its month, 5 the last of its month". */
    private static void weekdaysOfAMonth() {
        for (String when : new String[] {"2024-02-01T13:00", "2024-02-15T13:00", "2024-02-29T13:00"}) {
            // A leap February that begins and ends with a Thursday.
            moves(when, 4, 4, "2024-02-01T13:00");
            moves(when, 4, 5, "2024-02-02T13:00");
            moves(when, 4, 3, "2024-02-07T13:00");
            moves(when, 5, 4, "2024-02-29T13:00");
            moves(when, 5, 3, "2024-02-28T13:00");
            moves(when, 5, 5, "2024-02-23T13:00");
        }
        moves("2023-02-10T00:00", 5, 2, "2023-02-28T00:00");
        moves("2023-02-10T00:00", 5, 3, "2023-02-22T00:00");
        for (int day = 1; day <= 7; day++) {
            moves("-9999-01-31T00:00", 4, day, "-9999-01-0" + day + "T00:00");
            moves("9999-12-01T00:00", 5, day, "9999-12-" + (day <= 5 ? 26 + day : 19 + day) + "T00:00");
        }
    }

    /** "else ArithmeticException: it is no date". */
    private static void weekdaysBeyondTheYears() {
        for (int day = 1; day <= 7; day++) {
            noMove(Edge.LAST, 0, day);
            noMove(Edge.FIRST, 2, day);
            if (day != 5) {
                noMove(Edge.LAST, 1, day);
            }
            if (day != 1) {
                noMove(Edge.FIRST, 3, day);
            }
        }
        // The first day is a Monday, the last one a Friday.
        moves(Edge.LAST, 1, 5, Edge.LAST);
        moves(Edge.FIRST, 3, 1, Edge.FIRST);
        moves("9999-12-24T00:00", 0, 5, "9999-12-31T00:00");
        moves("9999-12-25T00:00", 0, 5, "9999-12-31T00:00");
        noMove("9999-12-25T00:00", 0, 6);
        moves("9999-12-30T00:00", 0, 5, "9999-12-31T00:00");
        moves("9999-12-30T00:00", 1, 5, "9999-12-31T00:00");
        noMove("9999-12-30T00:00", 1, 6);
        noMove("9999-12-30T00:00", 0, 4);
        moves("-9999-01-08T00:00", 2, 1, Edge.FIRST);
        moves("-9999-01-02T00:00", 2, 1, Edge.FIRST);
        moves("-9999-01-02T00:00", 3, 1, Edge.FIRST);
        noMove("-9999-01-02T00:00", 2, 2);
        noMove("-9999-01-02T00:00", 3, 7);
        noMove("-9999-01-07T00:00", 2, 7);
        moves("-9999-01-07T00:00", 3, 7, "-9999-01-07T00:00");
    }

    private static void noMove(String from, int how, int day) {
        Edge.throwsAt(from, "adjusted by " + how + ", " + day, Edge.ARITHMETIC, desk -> desk.adjust(0, how, day));
    }

    /** "IllegalArgumentException: no such day or how", before it is asked whether it is a date. */
    private static void noSuchWeekday() {
        for (String when : new String[] {"2025-01-01T00:00", Edge.FIRST, Edge.LAST}) {
            for (int how = 0; how <= 5; how++) {
                for (int day : new int[] {0, 8, -1, Integer.MIN_VALUE, Integer.MAX_VALUE}) {
                    noWay(when, how, day);
                }
            }
            for (int how : new int[] {-1, 6, Integer.MIN_VALUE, Integer.MAX_VALUE}) {
                noWay(when, how, 1);
                noWay(when, how, 7);
                noWay(when, how, 8);
            }
        }
    }

    private static void noWay(String from, int how, int day) {
        Edge.throwsAt(from, "adjusted by " + how + ", " + day, Edge.ARGUMENT, desk -> desk.adjust(0, how, day));
    }
}

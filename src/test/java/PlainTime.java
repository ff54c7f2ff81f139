import java.math.BigInteger;
import java.time.DateTimeException;
import java.time.DayOfWeek;
import java.time.LocalDate;
import java.time.LocalDateTime;
import java.time.temporal.ChronoField;
import java.time.temporal.IsoFields;
import java.time.temporal.TemporalAdjuster;
import java.time.temporal.TemporalAdjusters;
import java.time.temporal.TemporalField;

/** The document's words about fields, units and texts, with java.time and numbers of any size. */
final class PlainTime {
    static final TemporalField[] FIELDS = {
        ChronoField.YEAR, ChronoField.MONTH_OF_YEAR, ChronoField.DAY_OF_MONTH, ChronoField.DAY_OF_YEAR,
        ChronoField.EPOCH_DAY, ChronoField.DAY_OF_WEEK, ChronoField.HOUR_OF_DAY, ChronoField.MINUTE_OF_HOUR,
        ChronoField.SECOND_OF_MINUTE, ChronoField.NANO_OF_SECOND, ChronoField.SECOND_OF_DAY, ChronoField.NANO_OF_DAY,
        IsoFields.QUARTER_OF_YEAR, IsoFields.WEEK_OF_WEEK_BASED_YEAR, IsoFields.WEEK_BASED_YEAR,
        ChronoField.PROLEPTIC_MONTH,
    };
    private static final BigInteger DAY = BigInteger.valueOf(86400000000000L);
    private static final long[] NANOS = {1, 1000, 1000000, 1000000000L, 60000000000L, 3600000000000L,
        43200000000000L, 86400000000000L, 604800000000000L};
    private static final int[] MONTHS = {1, 3, 12, 120, 1200};
    private static final String TEXT =
            "(?!-0000)-?[0-9]{4}-[0-9]{2}-[0-9]{2}(T[0-9]{2}:[0-9]{2}(:[0-9]{2}([.][0-9]{1,9})?)?)?";

    private PlainTime() {
    }

    static boolean isDate(int year, int month, int day) {
        try {
            LocalDate.of(year, month, day);
            return year >= -9999 && year <= 9999;
        } catch (DateTimeException e) {
            return false;
        }
    }

    static boolean isTime(int hour, int minute, int second, int nano) {
        return hour >= 0 && hour < 24 && minute >= 0 && minute < 60 && second >= 0 && second < 60
                && nano >= 0 && nano < 1000000000;
    }

    /** Null if the date and time is none of the calendar. */
    static LocalDateTime inCalendar(LocalDateTime when) {
        return when.isBefore(Desk.FIRST) || when.isAfter(Desk.LAST) ? null : when;
    }

    /** Null if the value is none of the field's. */
    static LocalDateTime with(LocalDateTime before, int field, long value) {
        try {
            return inCalendar(before.with(FIELDS[field], value));
        } catch (DateTimeException e) {
            return null;
        }
    }

    /** ADDING; null if it is no date. */
    static LocalDateTime sum(LocalDateTime before, long n, int unit) {
        if (unit >= 9) {
            BigInteger months = BigInteger.valueOf(n).multiply(BigInteger.valueOf(MONTHS[unit - 9]));
            return months.bitLength() > 30 ? null : inCalendar(before.plusMonths(months.longValueExact()));
        }
        BigInteger sum = nanos(before).add(BigInteger.valueOf(n).multiply(BigInteger.valueOf(NANOS[unit])));
        BigInteger[] parts = sum.divideAndRemainder(DAY);
        if (parts[0].bitLength() > 30) {
            return null;
        }
        return inCalendar(LocalDate.EPOCH.plusDays(parts[0].longValueExact()).atStartOfDay()
                .plusNanos(parts[1].longValueExact()));
    }

    /** BETWEEN. */
    static BigInteger between(LocalDateTime a, LocalDateTime b, int unit) {
        return unit < 9 ? nanos(b).subtract(nanos(a)).divide(BigInteger.valueOf(NANOS[unit]))
                : BigInteger.valueOf(months(a, b) / MONTHS[unit - 9]);
    }

    private static BigInteger nanos(LocalDateTime when) {
        return BigInteger.valueOf(when.toLocalDate().toEpochDay()).multiply(DAY)
                .add(BigInteger.valueOf(when.toLocalTime().toNanoOfDay()));
    }

    private static int months(LocalDateTime a, LocalDateTime b) {
        int months = b.getYear() * 12 + b.getMonthValue() - a.getYear() * 12 - a.getMonthValue();
        LocalDateTime dayOfA = a.withYear(2000).withMonth(1).withDayOfMonth(a.getDayOfMonth());
        LocalDateTime dayOfB = b.withYear(2000).withMonth(1).withDayOfMonth(b.getDayOfMonth());
        if (b.isAfter(a) && dayOfB.isBefore(dayOfA)) {
            return months - 1;
        }
        return b.isBefore(a) && dayOfB.isAfter(dayOfA) ? months + 1 : months;
    }

    static int span(LocalDateTime from, LocalDateTime to, int what) {
        LocalDate first = from.toLocalDate();
        LocalDate last = to.toLocalDate();
        int months = months(first.atStartOfDay(), last.atStartOfDay());
        int days = (int) (last.toEpochDay() - first.plusMonths(months).toEpochDay());
        return new int[] {months / 12, months % 12, days}[what];
    }

    /** Null if it is no date. */
    static LocalDateTime adjusted(LocalDateTime before, int how, int day) {
        DayOfWeek weekday = DayOfWeek.of(day);
        TemporalAdjuster[] ways = {TemporalAdjusters.next(weekday), TemporalAdjusters.nextOrSame(weekday),
            TemporalAdjusters.previous(weekday), TemporalAdjusters.previousOrSame(weekday),
            TemporalAdjusters.firstInMonth(weekday), TemporalAdjusters.lastInMonth(weekday)};
        return inCalendar(before.with(ways[how]));
    }

    static double julian(LocalDateTime when) {
        return (when.toLocalDate().toEpochDay() + 2440587.5) + when.toLocalTime().toNanoOfDay() / 8.64E13;
    }

    /** Null if the line is no text of a date. */
    static LocalDateTime read(String line) {
        if (!line.matches(TEXT)) {
            return null;
        }
        try {
            return LocalDateTime.parse(line.contains("T") ? line : line + "T00:00");
        } catch (DateTimeException e) {
            return null;
        }
    }
}

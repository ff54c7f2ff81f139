import java.math.BigInteger;
import java.time.LocalDateTime;
import java.time.Period;
import java.util.Random;

/** Promises 6 (plus), 7 (until), 8 (span) and 9 (adjust). */
public final class AmountsTest {
    private static final Class<?> SUPPORT = UnsupportedOperationException.class;
    private static final Class<?> ARGUMENT = IllegalArgumentException.class;
    private static final Class<?> ARITHMETIC = ArithmeticException.class;

    public static void main(String[] args) {
        namedSums();
        anySums();
        namedAmounts();
        anyAmounts();
        namedSpans();
        anySpans();
        adjustments();
        wrongNumbers();
        Check.end();
    }

    private static void namedSums() {
        sum("2024-02-29T13:05", 1, 11, "2025-02-28T13:05");
        sum("2024-02-29T13:05", 4, 11, "2028-02-29T13:05");
        sum("2024-01-31T00:00", 1, 9, "2024-02-29T00:00");
        sum("2024-03-31T00:00", -1, 9, "2024-02-29T00:00");
        sum("2024-11-30T00:00", 1, 10, "2025-02-28T00:00");
        sum("2004-02-29T00:00", 1, 12, "2014-02-28T00:00");
        sum("2000-02-29T00:00", 1, 13, "2100-02-28T00:00");
        sum("2000-01-01T00:00", -1, 0, "1999-12-31T23:59:59.999999999");
        sum("1999-12-31T23:59:59.999999999", 1, 0, "2000-01-01T00:00");
        sum("2000-01-01T00:00", 1, 1, "2000-01-01T00:00:00.000001");
        sum("2000-01-01T00:00", 1, 2, "2000-01-01T00:00:00.001");
        sum("2000-01-01T00:00", -1, 3, "1999-12-31T23:59:59");
        sum("2000-01-01T00:00", 1441, 4, "2000-01-02T00:01");
        sum("2000-01-01T00:00", -25, 5, "1999-12-30T23:00");
        sum("2000-01-01T18:00", 3, 6, "2000-01-03T06:00");
        sum("2000-01-01T18:00", -1, 7, "1999-12-31T18:00");
        sum("2000-02-28T18:00", 1, 8, "2000-03-06T18:00");
        sum("-9999-01-01T00:00", 7304483, 7, "9999-12-31T00:00");
        sum("-9999-01-01T00:00", 1043497, 8, "9999-12-27T00:00");
        sum("-9999-01-31T00:00", 239987, 9, "9999-12-31T00:00");
        sum("9999-12-31T00:00", -239987, 9, "-9999-01-31T00:00");
        sum("9999-12-31T23:59:59.999999999", 0, 0, "9999-12-31T23:59:59.999999999");
        sum("9999-12-31T23:59:59.999999999", 1, 0, null);
        sum("-9999-01-01T00:00", -1, 0, null);
        sum("9999-12-31T00:00", 1, 7, null);
        sum("9999-12-01T00:00", 1, 9, null);
        sum("-9999-01-31T00:00", -1, 9, null);
        sum("9999-01-01T00:00", 1, 11, null);
        // Products that come back into the calendar if they wrap around.
        sum("2000-01-01T00:00", 1L << 62, 10, null);
        sum("2000-01-01T00:00", 1L << 62, 11, null);
        sum("2000-01-01T00:00", 1L << 60, 13, null);
        sum("2000-01-01T00:00", 1L << 32, 9, null);
        sum("2000-01-01T00:00", 2635249153387078803L, 8, null);
        sum("2000-01-01T00:00", 1L << 61, 6, null);
    }

    private static void sum(String before, long n, int unit, String after) {
        TimeDesk desk = new TimeDesk();
        Desk.put(desk, 0, before);
        String call = before + " plus " + n + " of " + unit;
        if (after == null) {
            Check.dueThrow(call, ARITHMETIC, () -> { desk.plus(0, n, unit); return 0; });
        } else {
            desk.plus(0, n, unit);
        }
        Check.due(call, Desk.take(desk, 0), LocalDateTime.parse(after == null ? before : after));
        Check.due("other slots stay", Desk.text(desk, 1), "1970-01-01T00:00");
    }

    private static void anySums() {
        Random random = new Random(6);
        for (int i = 0; i < 300000; i++) {
            TimeDesk desk = new TimeDesk();
            LocalDateTime before = Times.any(random);
            int unit = random.nextInt(14);
            long n = random.nextLong() >> random.nextInt(64);
            LocalDateTime want = PlainTime.sum(before, n, unit);
            Desk.put(desk, 0, before);
            String call = before + " plus " + n + " of " + unit;
            if (want == null) {
                Check.dueThrow(call, ARITHMETIC, () -> { desk.plus(0, n, unit); return 0; });
                want = before;
            } else {
                desk.plus(0, n, unit);
            }
            Check.due(call, Desk.take(desk, 0), want);
        }
    }

    private static void namedAmounts() {
        amount("2000-01-31T00:00", "2001-02-28T00:00", 9, 12L);
        amount("2001-02-28T00:00", "2000-01-31T00:00", 9, -12L);
        amount("2000-01-31T12:00", "2000-02-29T12:00", 9, 0L);
        amount("2000-01-15T12:00", "2000-02-15T12:00", 9, 1L);
        amount("2000-01-15T12:00", "2000-02-15T11:59", 9, 0L);
        amount("2000-02-15T11:59", "2000-01-15T12:00", 9, 0L);
        amount("2000-02-15T12:00", "2000-01-15T12:00", 9, -1L);
        // The day and time are compared as one, not the day after a step back for the time.
        amount("2000-01-31T12:00", "2000-03-01T10:00", 9, 1L);
        amount("2000-01-15T12:00", "2000-01-14T12:00", 9, 0L);
        amount("2000-01-01T00:00", "2000-06-30T00:00", 10, 1L);
        amount("2000-01-01T00:00", "2009-12-31T00:00", 12, 0L);
        amount("2010-01-01T00:00", "2000-01-01T00:00", 12, -1L);
        amount("-9999-01-01T00:00", "9999-12-31T00:00", 13, 199L);
        amount("2000-01-01T12:00", "2000-01-02T11:59", 7, 0L);
        amount("2000-01-02T11:59", "2000-01-01T12:00", 7, 0L);
        amount("2000-01-01T12:00", "2000-01-15T11:59", 8, 1L);
        amount("2000-01-15T11:59", "2000-01-01T12:00", 8, -1L);
        amount("2000-01-01T00:00", "1999-12-31T23:59:59.999999999", 3, 0L);
        amount("2000-01-01T00:00", "1999-12-31T23:59:59.999999999", 0, -1L);
        amount("-9999-01-01T00:00", "9999-12-31T23:59:59.999999999", 1, 631107417599999999L);
        amount("-9999-01-01T00:00", "9999-12-31T00:00", 0, null);
        amount("9999-12-31T00:00", "-9999-01-01T00:00", 0, null);
        String epoch = "1970-01-01T00:00";
        amount(epoch, "2262-04-11T23:47:16.854775807", 0, Long.MAX_VALUE);
        amount(epoch, "2262-04-11T23:47:16.854775808", 0, null);
        amount(epoch, "1677-09-21T00:12:43.145224192", 0, Long.MIN_VALUE);
        amount(epoch, "1677-09-21T00:12:43.145224191", 0, null);
        amount("2262-04-11T23:47:16.854775808", epoch, 0, Long.MIN_VALUE);
    }

    private static void amount(String from, String to, int unit, Long want) {
        TimeDesk desk = new TimeDesk();
        Desk.put(desk, 2, from);
        Desk.put(desk, 5, to);
        String call = "from " + from + " until " + to + " in " + unit;
        if (want == null) {
            Check.dueThrow(call, ARITHMETIC, () -> desk.until(2, 5, unit));
        } else {
            Check.due(call, desk.until(2, 5, unit), want.longValue());
        }
        Check.due("both stay", Desk.take(desk, 2), LocalDateTime.parse(from));
        Check.due("both stay", Desk.take(desk, 5), LocalDateTime.parse(to));
    }

    private static void anyAmounts() {
        Random random = new Random(7);
        for (int i = 0; i < 300000; i++) {
            TimeDesk desk = new TimeDesk();
            LocalDateTime from = Times.any(random);
            LocalDateTime to = random.nextInt(10) == 0 ? from : Times.any(random);
            int unit = random.nextInt(14);
            Desk.put(desk, 0, from);
            Desk.put(desk, 1, to);
            BigInteger want = PlainTime.between(from, to, unit);
            String call = "from " + from + " until " + to + " in " + unit;
            if (want.bitLength() > 63) {
                Check.dueThrow(call, ARITHMETIC, () -> desk.until(0, 1, unit));
            } else {
                Check.due(call, desk.until(0, 1, unit), want.longValueExact());
            }
            Check.due("until itself", desk.until(1, 1, unit), 0);
        }
    }

    private static void namedSpans() {
        span("2000-01-31T12:00", "2001-02-28T00:00", 1, 0, 28);
        span("2001-02-28T00:00", "2000-01-31T12:00", -1, 0, -28);
        span("2000-01-31T23:00", "2000-03-31T01:00", 0, 2, 0);
        span("2000-01-31T00:00", "2000-03-01T00:00", 0, 1, 1);
        span("2000-03-01T00:00", "2000-01-31T00:00", 0, -1, -1);
        span("2000-03-31T00:00", "2000-02-01T00:00", 0, -1, -28);
        span("2024-02-29T00:00", "2023-02-28T00:00", -1, 0, 0);
        span("2000-01-01T23:00", "2000-01-01T00:00", 0, 0, 0);
        span("-9999-01-01T00:00", "9999-12-31T00:00", 19998, 11, 30);
        span("9999-12-31T00:00", "-9999-01-01T00:00", -19998, -11, -30);
    }

    private static void span(String from, String to, int... want) {
        TimeDesk desk = new TimeDesk();
        Desk.put(desk, 1, from);
        Desk.put(desk, 0, to);
        for (int what = 0; what < 3; what++) {
            Check.due("span " + what + " from " + from + " to " + to, desk.span(1, 0, what), want[what]);
        }
    }

    private static void anySpans() {
        Random random = new Random(8);
        for (int i = 0; i < 100000; i++) {
            TimeDesk desk = new TimeDesk();
            LocalDateTime from = Times.any(random);
            LocalDateTime to = Times.any(random);
            Desk.put(desk, 0, from);
            Desk.put(desk, 1, to);
            for (int what = 0; what < 3; what++) {
                Check.due("span " + what + " from " + from + " to " + to, desk.span(0, 1, what),
                        PlainTime.span(from, to, what));
            }
            if (!to.isBefore(from)) {
                Period period = Period.between(from.toLocalDate(), to.toLocalDate());
                Check.due("period's days", desk.span(0, 1, 2), period.getDays());
            }
        }
    }

    private static void adjustments() {
        Random random = new Random(9);
        for (int i = 0; i < 100000; i++) {
            adjust(Times.any(random), random.nextInt(6), 1 + random.nextInt(7));
        }
        for (int day = 1; day <= 7; day++) {
            for (int how = 0; how < 6; how++) {
                for (int i = 0; i < 8; i++) {
                    adjust(Desk.FIRST.plusDays(i), how, day);
                    adjust(Desk.LAST.minusDays(i), how, day);
                }
            }
        }
    }

    private static void adjust(LocalDateTime before, int how, int day) {
        TimeDesk desk = new TimeDesk();
        LocalDateTime want = PlainTime.adjusted(before, how, day);
        Desk.put(desk, 3, before);
        String call = before + " adjusted by " + how + ", " + day;
        if (want == null) {
            Check.dueThrow(call, ARITHMETIC, () -> { desk.adjust(3, how, day); return 0; });
            want = before;
        } else {
            desk.adjust(3, how, day);
        }
        Check.due(call, Desk.take(desk, 3), want);
    }

    private static void wrongNumbers() {
        TimeDesk desk = new TimeDesk();
        Desk.put(desk, 0, Desk.LAST);
        Desk.put(desk, 1, Desk.FIRST);
        for (int wrong : new int[] {-1, 14, 15, Integer.MIN_VALUE, Integer.MAX_VALUE}) {
            Check.dueThrow("plus of " + wrong, SUPPORT, () -> { desk.plus(0, Long.MAX_VALUE, wrong); return 0; });
            Check.dueThrow("until in " + wrong, SUPPORT, () -> desk.until(0, 1, wrong));
            Check.dueThrow("span " + wrong, SUPPORT, () -> desk.span(0, 1, wrong));
            Check.dueThrow("adjust by " + wrong, ARGUMENT, () -> { desk.adjust(0, wrong, 1); return 0; });
            Check.dueThrow("adjust to " + wrong, ARGUMENT, () -> { desk.adjust(0, 0, wrong); return 0; });
        }
        Check.dueThrow("span 3", SUPPORT, () -> desk.span(0, 1, 3));
        Check.dueThrow("adjust by 6", ARGUMENT, () -> { desk.adjust(0, 6, 1); return 0; });
        Check.dueThrow("adjust to 0", ARGUMENT, () -> { desk.adjust(0, 0, 0); return 0; });
        Check.dueThrow("adjust to 8", ARGUMENT, () -> { desk.adjust(0, 0, 8); return 0; });
        Check.due("all is left", Desk.take(desk, 0), Desk.LAST);
    }
}

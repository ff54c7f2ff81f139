import java.time.LocalDate;
import java.time.LocalDateTime;
import java.time.temporal.IsoFields;
import java.util.Random;

/** Promises 4 (get) and 5 (with), against java.time. */
public final class FieldsTest {
    private static final Class<?> ARGUMENT = IllegalArgumentException.class;
    private static final Class<?> SUPPORT = UnsupportedOperationException.class;

    public static void main(String[] args) {
        everyDay();
        namedFields();
        wrongFields();
        namedSettings();
        wrongValues();
        anySettings();
        Check.end();
    }

    /** Every date of the calendar in its turn, by its epoch day and by its parts. */
    private static void everyDay() {
        long last = Desk.LAST.toLocalDate().toEpochDay();
        TimeDesk desk = new TimeDesk();
        for (long day = Desk.FIRST.toLocalDate().toEpochDay(); day <= last; day++) {
            // No desk is used for more than 512 calls, and a day takes nine at most.
            if (day % 50 == 0) {
                desk = new TimeDesk();
            }
            everyField(desk, day);
        }
    }

    private static void everyField(TimeDesk desk, long day) {
        LocalDate date = LocalDate.ofEpochDay(day);
        desk.with(0, 4, day);
        boolean isSame = desk.get(0, 0) == date.getYear() && desk.get(0, 1) == date.getMonthValue()
                && desk.get(0, 2) == date.getDayOfMonth() && desk.get(0, 3) == date.getDayOfYear()
                && desk.get(0, 4) == day && desk.get(0, 5) == date.getDayOfWeek().getValue();
        Check.due("fields of epoch day " + day, isSame ? 1 : 0, 1);
        if (Math.floorMod(date.getYear(), 400) < 30) {
            Check.due("week of " + date, desk.get(0, 13), date.get(IsoFields.WEEK_OF_WEEK_BASED_YEAR));
            Check.due("week's year of " + date, desk.get(0, 14), date.get(IsoFields.WEEK_BASED_YEAR));
        }
    }

    private static void namedFields() {
        TimeDesk desk = new TimeDesk();
        fields(desk, "1970-01-01T00:00", 1970, 1, 1, 1, 0, 4, 0, 0, 0, 0, 0, 0, 1, 1, 1970, 23640);
        fields(desk, "2024-12-31T23:59:59.999999999", 2024, 12, 31, 366, 20088, 2, 23, 59, 59, 999999999, 86399,
                86399999999999L, 4, 1, 2025, 24299);
        fields(desk, "2021-01-03T13:05:09.12", 2021, 1, 3, 3, 18630, 7, 13, 5, 9, 120000000, 47109,
                47109120000000L, 1, 53, 2020, 24252);
        fields(desk, "-9999-01-01T00:00", -9999, 1, 1, 1, -4371587, 1, 0, 0, 0, 0, 0, 0, 1, 1, -9999, -119988);
        fields(desk, "9999-12-31T00:00", 9999, 12, 31, 365, 2932896, 5, 0, 0, 0, 0, 0, 0, 4, 52, 9999, 119999);
        fields(desk, "-0001-12-31T00:00", -1, 12, 31, 365, -719529, 5, 0, 0, 0, 0, 0, 0, 4, 52, -1, -1);
        fields(desk, "0000-02-29T00:00", 0, 2, 29, 60, -719469, 2, 0, 0, 0, 0, 0, 0, 1, 9, 0, 1);
    }

    private static void fields(TimeDesk desk, String when, long... want) {
        Desk.put(desk, 2, when);
        for (int field = 0; field < want.length; field++) {
            Check.due("field " + field + " of " + when, desk.get(2, field), want[field]);
        }
        Check.due("all fields are given", want.length, 16);
    }

    private static void wrongFields() {
        TimeDesk desk = new TimeDesk();
        for (int field : new int[] {-1, 16, 17, Integer.MIN_VALUE, Integer.MAX_VALUE}) {
            Check.dueThrow("get(0, " + field + ")", SUPPORT, () -> desk.get(0, field));
            Check.dueThrow("with(0, " + field + ", 1)", SUPPORT, () -> { desk.with(0, field, 1); return 0; });
        }
        for (int field : new int[] {13, 14}) {
            Check.dueThrow("with(0, " + field + ", 1)", SUPPORT, () -> { desk.with(0, field, 1); return 0; });
            Check.dueThrow("with(0, " + field + ", -99999)", SUPPORT,
                    () -> { desk.with(0, field, -99999); return 0; });
        }
    }

    private static void namedSettings() {
        setting("2024-02-29T01:02:03.000000004", 0, 2023, "2023-02-28T01:02:03.000000004");
        setting("2024-02-29T00:00", 0, 2000, "2000-02-29T00:00");
        setting("2024-02-29T00:00", 0, 9999, "9999-02-28T00:00");
        setting("2024-02-29T00:00", 0, -9999, "-9999-02-28T00:00");
        setting("2024-01-31T00:00", 1, 4, "2024-04-30T00:00");
        setting("2024-01-31T00:00", 1, 2, "2024-02-29T00:00");
        setting("2024-02-01T00:00", 2, 29, "2024-02-29T00:00");
        setting("2024-02-01T05:00", 3, 366, "2024-12-31T05:00");
        setting("2023-02-01T00:00", 3, 60, "2023-03-01T00:00");
        setting("2023-02-01T07:00", 4, -4371587, "-9999-01-01T07:00");
        setting("2023-02-01T00:00", 4, 2932896, "9999-12-31T00:00");
        setting("2025-02-28T00:00", 5, 7, "2025-03-02T00:00");
        setting("2025-03-02T00:00", 5, 1, "2025-02-24T00:00");
        setting("9999-12-31T00:00", 5, 5, "9999-12-31T00:00");
        setting("9999-12-31T00:00", 5, 1, "9999-12-27T00:00");
        setting("2025-03-02T01:02:03.5", 6, 23, "2025-03-02T23:02:03.5");
        setting("2025-03-02T01:02:03.5", 7, 59, "2025-03-02T01:59:03.5");
        setting("2025-03-02T01:02:03.5", 8, 59, "2025-03-02T01:02:59.5");
        setting("2025-03-02T01:02:03.5", 9, 7, "2025-03-02T01:02:03.000000007");
        setting("2025-03-02T01:02:03.5", 10, 86399, "2025-03-02T23:59:59.5");
        setting("2025-03-02T01:02:03.5", 11, 86399999999999L, "2025-03-02T23:59:59.999999999");
        setting("2025-03-02T01:02:03.5", 11, 0, "2025-03-02T00:00");
        setting("2025-03-31T00:00", 12, 2, "2025-06-30T00:00");
        setting("2024-11-30T00:00", 12, 1, "2024-02-29T00:00");
        setting("2024-11-30T00:00", 12, 4, "2024-11-30T00:00");
        setting("2024-01-31T00:00", 15, 2023 * 12 + 1, "2023-02-28T00:00");
        setting("2024-01-31T00:00", 15, -1, "-0001-12-31T00:00");
        setting("2024-01-31T00:00", 15, -119988, "-9999-01-31T00:00");
        setting("2024-01-31T00:00", 15, 119999, "9999-12-31T00:00");
    }

    private static void setting(String before, int field, long value, String after) {
        TimeDesk desk = new TimeDesk();
        Desk.put(desk, 4, before);
        desk.with(4, field, value);
        Check.due(before + " with " + field + ", " + value, Desk.take(desk, 4), LocalDateTime.parse(after));
        Check.due("other slots stay", Desk.text(desk, 3), "1970-01-01T00:00");
    }

    private static void wrongValues() {
        String leap = "2024-02-29T12:00";
        refused(leap, 0, 10000, -10000);
        refused(leap, 1, 0, 13, -1);
        refused(leap, 2, 0, 30, -1);
        refused("2023-02-01T00:00", 2, 29);
        refused("2023-04-01T00:00", 2, 31);
        refused(leap, 3, 0, 367, -1);
        refused("2023-02-01T00:00", 3, 366);
        refused(leap, 4, -4371588, 2932897);
        refused(leap, 5, 0, 8, -1);
        refused("9999-12-31T00:00", 5, 6, 7, 8);
        refused("9999-12-30T00:00", 5, 6, 7);
        refused("-9999-01-01T00:00", 5, 0);
        refused(leap, 6, -1, 24);
        refused(leap, 7, -1, 60);
        refused(leap, 8, -1, 60);
        refused(leap, 9, -1, 1000000000);
        refused(leap, 10, -1, 86400);
        refused(leap, 11, -1, 86400000000000L);
        refused(leap, 12, 0, 5, -1);
        refused(leap, 15, -119989, 120000);
        for (int field = 0; field < 16; field++) {
            if (field != 13 && field != 14) {
                refused(leap, field, Long.MIN_VALUE, Long.MAX_VALUE, 1L << 32, (1L << 32) + 1, (1L << 62) + 1);
            }
        }
    }

    private static void refused(String before, int field, long... values) {
        for (long value : values) {
            if (field == 11 && value >= 0 && value < 86400000000000L) {
                continue;
            }
            TimeDesk desk = new TimeDesk();
            Desk.put(desk, 5, before);
            Check.dueThrow(before + " with " + field + ", " + value, ARGUMENT,
                    () -> { desk.with(5, field, value); return 0; });
            Check.due("refused, it leaves", Desk.take(desk, 5), LocalDateTime.parse(before));
        }
    }

    private static void anySettings() {
        Random random = new Random(5);
        for (int i = 0; i < 200000; i++) {
            TimeDesk desk = new TimeDesk();
            LocalDateTime before = Times.any(random);
            int field = random.nextInt(13);
            long most = new long[] {20100, 13, 32, 367, 7400000, 8, 25, 61, 61, 1001000000, 86500, 86500000000000L,
                5}[field];
            long value = Math.floorMod(random.nextLong(), most);
            if (field == 0) {
                value -= 10050;
            } else if (field == 4) {
                value -= 4380000;
            }
            Desk.put(desk, 0, before);
            LocalDateTime want = PlainTime.with(before, field, value);
            int f = field;
            long v = value;
            if (want == null) {
                Check.dueThrow(before + " with " + f + ", " + v, ARGUMENT, () -> { desk.with(0, f, v); return 0; });
                want = before;
            } else {
                desk.with(0, f, v);
            }
            Check.due(before + " with " + f + ", " + v, Desk.take(desk, 0), want);
        }
    }
}

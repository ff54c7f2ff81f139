import java.time.LocalDate;
import java.time.LocalDateTime;

/** Promises 1 (a new object), 2 (date), 3 (time), 10 (copy), and slots that are not there. */
public final class SlotsTest {
    private static final Class<?> ARGUMENT = IllegalArgumentException.class;
    private static final Class<?> INDEX = IndexOutOfBoundsException.class;

    public static void main(String[] args) {
        newObject();
        dates();
        times();
        copies();
        for (int slot : new int[] {-1, 8, Integer.MIN_VALUE, Integer.MAX_VALUE}) {
            noSuchSlot(slot);
        }
        Check.end();
    }

    private static void newObject() {
        TimeDesk desk = new TimeDesk();
        for (int slot = 0; slot < 8; slot++) {
            Check.due("new slot " + slot, Desk.text(desk, slot), "1970-01-01T00:00");
            Check.due("new nanosecond of day", desk.get(slot, 11), 0);
        }
        for (int zone = 0; zone < 4; zone++) {
            Check.due("new zone " + zone, desk.offset(zone, 0), 0);
            Check.due("new zone has no changes or rules", desk.change(zone, 8, 1), true);
        }
        Check.dueThrow("new line", ARGUMENT, () -> { desk.parse(0); return 0; });
        Check.due("other object", Desk.text(new TimeDesk(), 0), "1970-01-01T00:00");
    }

    private static void dates() {
        int[] years = {-10000, -9999, -9996, -401, -400, -101, -100, -4, -1, 0, 1, 4, 100, 400, 1900, 1970, 2000,
            2023, 2024, 2100, 9996, 9999, 10000, Integer.MIN_VALUE, Integer.MAX_VALUE};
        int[] others = {Integer.MIN_VALUE, -1, 13, 32, 257, Integer.MAX_VALUE};
        for (int year : years) {
            for (int month = 0; month <= 13; month++) {
                for (int day = 0; day <= 32; day++) {
                    date(year, month, day);
                }
                for (int day : others) {
                    date(year, month, day);
                }
            }
            for (int month : others) {
                date(year, month, 1);
            }
        }
    }

    private static void date(int year, int month, int day) {
        TimeDesk desk = new TimeDesk();
        desk.time(3, 1, 2, 3, 4);
        String call = "date(3, " + year + ", " + month + ", " + day + ")";
        LocalDate want = LocalDate.EPOCH;
        if (PlainTime.isDate(year, month, day)) {
            desk.date(3, year, month, day);
            want = LocalDate.of(year, month, day);
        } else {
            Check.dueThrow(call, ARGUMENT, () -> { desk.date(3, year, month, day); return 0; });
        }
        Check.due(call + ", of which the time stays", Desk.take(desk, 3), want.atTime(1, 2, 3, 4));
        Check.due("other slots stay", Desk.text(desk, 2), "1970-01-01T00:00");
    }

    private static void times() {
        int[] hours = {0, 23, -1, 24, Integer.MIN_VALUE, Integer.MAX_VALUE};
        int[] sixties = {0, 59, -1, 60, Integer.MIN_VALUE, Integer.MAX_VALUE};
        int[] nanos = {0, 1, 999999999, -1, 1000000000, Integer.MIN_VALUE, Integer.MAX_VALUE};
        for (int hour : hours) {
            for (int minute : sixties) {
                for (int second : sixties) {
                    for (int nano : nanos) {
                        time(hour, minute, second, nano);
                    }
                }
            }
        }
    }

    private static void time(int hour, int minute, int second, int nano) {
        TimeDesk desk = new TimeDesk();
        desk.date(7, 2000, 2, 29);
        desk.time(7, 5, 6, 7, 8);
        String call = "time(7, " + hour + ", " + minute + ", " + second + ", " + nano + ")";
        LocalDateTime want = LocalDateTime.of(2000, 2, 29, 5, 6, 7, 8);
        if (PlainTime.isTime(hour, minute, second, nano)) {
            desk.time(7, hour, minute, second, nano);
            want = LocalDateTime.of(2000, 2, 29, hour, minute, second, nano);
        } else {
            Check.dueThrow(call, ARGUMENT, () -> { desk.time(7, hour, minute, second, nano); return 0; });
        }
        Check.due(call + ", of which the date stays", Desk.take(desk, 7), want);
    }

    private static void copies() {
        String[] rising = {"-9999-01-01T00:00", "-0001-12-31T23:59:59.999999999", "0000-01-01T00:00",
            "2000-02-28T12:00", "2000-02-29T11:00", "2000-02-29T11:00:00.000000001", "2000-03-01T00:00",
            "2001-01-01T00:00", "9999-12-31T23:59:59.999999999"};
        for (int i = 0; i < rising.length; i++) {
            for (int j = 0; j < rising.length; j++) {
                TimeDesk desk = new TimeDesk();
                Desk.put(desk, 1, rising[i]);
                Desk.put(desk, 6, rising[j]);
                Check.due("copy " + rising[i] + " to " + rising[j], desk.copy(1, 6), Integer.compare(j, i));
                Check.due("copied", Desk.text(desk, 6), rising[i]);
                Check.due("copied from", Desk.text(desk, 1), rising[i]);
            }
        }
        TimeDesk desk = new TimeDesk();
        Desk.put(desk, 1, rising[3]);
        Check.due("copy to itself", desk.copy(1, 1), 0);
        desk.copy(1, 6);
        desk.plus(6, -1, 7);
        Check.due("a copy is one of its own", Desk.text(desk, 1), rising[3]);
    }

    /** Each other argument is wrong too: the slot is looked at first. */
    private static void noSuchSlot(int slot) {
        TimeDesk desk = new TimeDesk();
        Desk.type(desk, "2023-01-01");
        Check.dueThrow("date", INDEX, () -> { desk.date(slot, 1, 13, 1); return 0; });
        Check.dueThrow("time", INDEX, () -> { desk.time(slot, 24, 0, 0, 0); return 0; });
        Check.dueThrow("get", INDEX, () -> desk.get(slot, 16));
        Check.dueThrow("with", INDEX, () -> { desk.with(slot, 16, 0); return 0; });
        Check.dueThrow("plus", INDEX, () -> { desk.plus(slot, Long.MAX_VALUE, 14); return 0; });
        Check.dueThrow("until", INDEX, () -> desk.until(slot, 0, 14));
        Check.dueThrow("until other", INDEX, () -> desk.until(0, slot, 14));
        Check.dueThrow("span", INDEX, () -> desk.span(slot, 0, 3));
        Check.dueThrow("span other", INDEX, () -> desk.span(0, slot, 3));
        Check.dueThrow("adjust", INDEX, () -> { desk.adjust(slot, 6, 8); return 0; });
        Check.dueThrow("copy", INDEX, () -> desk.copy(slot, 0));
        Check.dueThrow("copy other", INDEX, () -> desk.copy(0, slot));
        Check.dueThrow("moment", INDEX, () -> desk.moment(slot, 4, false));
        Check.dueThrow("show", INDEX, () -> { desk.show(slot, 4, Long.MAX_VALUE); return 0; });
        Check.dueThrow("julian", INDEX, () -> desk.julian(slot));
        Check.dueThrow("parse", INDEX, () -> { desk.parse(slot); return 0; });
        Check.dueThrow("text", INDEX, () -> desk.text(slot, -1));
        desk.parse(0);
        Check.due("the line stayed", Desk.text(desk, 0), "2023-01-01T00:00");
    }
}

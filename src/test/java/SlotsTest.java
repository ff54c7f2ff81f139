import java.time.DateTimeException;
import java.time.LocalDate;

/** Promises 1 (a new object), 2 (date), 3 (time), 10 (copy), and slots that are not there. */
public final class SlotsTest {
    private static final Class<?> ARGUMENT = IllegalArgumentException.class;
    private static final Class<?> INDEX = IndexOutOfBoundsException.class;

    public static void main(String[] args) {
        newObject();
        dates();
        times();
        copies();
        for (int slot : new int[] {-1, 8, Integer.MIN_VALUE, Integer.MAX_VALUE}) {
            noSuchSlot(slot);
        }
        Check.end();
    }

    private static void newObject() {
        TimeDesk desk = new TimeDesk();
        for (int slot = 0; slot < 8; slot++) {
            Check.due("new slot " + slot, Desk.text(desk, slot), "1970-01-01T00:00");
            Check.due("new nanosecond of day", desk.get(slot, 11), 0);
        }
        for (int zone = 0; zone < 4; zone++) {
            Check.due("new zone " + zone, desk.offset(zone, 0), 0);
            Check.due("new zone has no changes or rules", desk.change(zone, 8, 1), true);
        }
        Check.dueThrow("new line", ARGUMENT, () -> { desk.parse(0); return 0; });
        Check.due("other object", Desk.text(new TimeDesk(), 0), "1970-01-01T00:00");
    }

    private static void dates() {
        TimeDesk desk = new TimeDesk();
        desk.time(3, 1, 2, 3, 4);
        int[] years = {-10000, -9999, -9996, -401, -400, -101, -100, -4, -1, 0, 1, 4, 100, 400, 1900, 1970, 2000,
            2023, 2024, 2100, 9996, 9999, 10000, Integer.MIN_VALUE, Integer.MAX_VALUE};
        int[] others = {Integer.MIN_VALUE, -1, 13, 32, 257, Integer.MAX_VALUE};
        for (int year : years) {
            for (int month = 0; month <= 13; month++) {
                for (int day = 0; day <= 32; day++) {
                    date(desk, year, month, day);
                }
                for (int day : others) {
                    date(desk, year, month, day);
                }
            }
            for (int month : others) {
                date(desk, year, month, 1);
            }
        }
        Check.due("the time stays", desk.get(3, 11), 3723000000004L);
        Check.due("other slots stay", Desk.text(desk, 2), "1970-01-01T00:00");
    }

    private static void date(TimeDesk desk, int year, int month, int day) {
        String call = "date(3, " + year + ", " + month + ", " + day + ")";
        String before = Desk.text(desk, 3);
        if (isDate(year, month, day)) {
            desk.date(3, year, month, day);
            Check.due(call, Desk.take(desk, 3).toLocalDate(), LocalDate.of(year, month, day));
        } else {
            Check.dueThrow(call, ARGUMENT, () -> { desk.date(3, year, month, day); return 0; });
            Check.due(call + " leaves", Desk.text(desk, 3), before);
        }
    }

    private static boolean isDate(int year, int month, int day) {
        try {
            LocalDate.of(year, month, day);
            return year >= -9999 && year <= 9999;
        } catch (DateTimeException e) {
            return false;
        }
    }

    private static void times() {
        int[] hours = {0, 23, -1, 24, Integer.MIN_VALUE, Integer.MAX_VALUE};
        int[] sixties = {0, 59, -1, 60, Integer.MIN_VALUE, Integer.MAX_VALUE};
        int[] nanos = {0, 1, 999999999, -1, 1000000000, Integer.MIN_VALUE, Integer.MAX_VALUE};
        TimeDesk desk = new TimeDesk();
        desk.date(7, 2000, 2, 29);
        for (int hour : hours) {
            for (int minute : sixties) {
                for (int second : sixties) {
                    for (int nano : nanos) {
                        time(desk, hour, minute, second, nano);
                    }
                }
            }
        }
        Check.due("the date stays", desk.get(7, 4), 11016);
    }

    private static void time(TimeDesk desk, int hour, int minute, int second, int nano) {
        String call = "time(7, " + hour + ", " + minute + ", " + second + ", " + nano + ")";
        long before = desk.get(7, 11);
        boolean isTime = hour >= 0 && hour < 24 && minute >= 0 && minute < 60 && second >= 0 && second < 60
                && nano >= 0 && nano < 1000000000;
        if (isTime) {
            desk.time(7, hour, minute, second, nano);
            Check.due(call, desk.get(7, 11), ((hour * 60L + minute) * 60 + second) * 1000000000 + nano);
        } else {
            Check.dueThrow(call, ARGUMENT, () -> { desk.time(7, hour, minute, second, nano); return 0; });
            Check.due(call + " leaves", desk.get(7, 11), before);
        }
    }

    private static void copies() {
        String[] rising = {"-9999-01-01T00:00", "-0001-12-31T23:59:59.999999999", "0000-01-01T00:00",
            "2000-02-28T12:00", "2000-02-29T11:00", "2000-02-29T11:00:00.000000001", "2000-03-01T00:00",
            "2001-01-01T00:00", "9999-12-31T23:59:59.999999999"};
        TimeDesk desk = new TimeDesk();
        for (int i = 0; i < rising.length; i++) {
            for (int j = 0; j < rising.length; j++) {
                Desk.put(desk, 1, rising[i]);
                Desk.put(desk, 6, rising[j]);
                Check.due("copy " + rising[i] + " to " + rising[j], desk.copy(1, 6), Integer.compare(j, i));
                Check.due("copied", Desk.text(desk, 6), rising[i]);
                Check.due("copied from", Desk.text(desk, 1), rising[i]);
            }
        }
        Check.due("copy to itself", desk.copy(1, 1), 0);
        desk.plus(6, -1, 7);
        Check.due("a copy is one of its own", Desk.text(desk, 1), rising[rising.length - 1]);
    }

    /** Each other argument is wrong too: the slot is looked at first. */
    private static void noSuchSlot(int slot) {
        TimeDesk desk = new TimeDesk();
        Desk.type(desk, "2023-01-01");
        Check.dueThrow("date", INDEX, () -> { desk.date(slot, 1, 13, 1); return 0; });
        Check.dueThrow("time", INDEX, () -> { desk.time(slot, 24, 0, 0, 0); return 0; });
        Check.dueThrow("get", INDEX, () -> desk.get(slot, 16));
        Check.dueThrow("with", INDEX, () -> { desk.with(slot, 16, 0); return 0; });
        Check.dueThrow("plus", INDEX, () -> { desk.plus(slot, Long.MAX_VALUE, 14); return 0; });
        Check.dueThrow("until", INDEX, () -> desk.until(slot, 0, 14));
        Check.dueThrow("until other", INDEX, () -> desk.until(0, slot, 14));
        Check.dueThrow("span", INDEX, () -> desk.span(slot, 0, 3));
        Check.dueThrow("span other", INDEX, () -> desk.span(0, slot, 3));
        Check.dueThrow("adjust", INDEX, () -> { desk.adjust(slot, 6, 8); return 0; });
        Check.dueThrow("copy", INDEX, () -> desk.copy(slot, 0));
        Check.dueThrow("copy other", INDEX, () -> desk.copy(0, slot));
        Check.dueThrow("moment", INDEX, () -> desk.moment(slot, 4, false));
        Check.dueThrow("show", INDEX, () -> { desk.show(slot, 4, Long.MAX_VALUE); return 0; });
        Check.dueThrow("julian", INDEX, () -> desk.julian(slot));
        Check.dueThrow("parse", INDEX, () -> { desk.parse(slot); return 0; });
        Check.dueThrow("text", INDEX, () -> desk.text(slot, -1));
        desk.parse(0);
        Check.due("the line stayed", Desk.text(desk, 0), "2023-01-01T00:00");
    }
}

import java.time.LocalDateTime;

/** Puts java.time's dates into slots and takes them out again. */
final class Desk {
    static final LocalDateTime FIRST = LocalDateTime.of(-9999, 1, 1, 0, 0);
    static final LocalDateTime LAST = LocalDateTime.of(9999, 12, 31, 23, 59, 59, 999999999);

    private Desk() {
    }

    static void put(TimeDesk desk, int slot, LocalDateTime when) {
        desk.date(slot, when.getYear(), when.getMonthValue(), when.getDayOfMonth());
        desk.time(slot, when.getHour(), when.getMinute(), when.getSecond(), when.getNano());
    }

    static void put(TimeDesk desk, int slot, String when) {
        put(desk, slot, LocalDateTime.parse(when));
    }

    static LocalDateTime take(TimeDesk desk, int slot) {
        LocalDateTime when = LocalDateTime.of((int) desk.get(slot, 0), (int) desk.get(slot, 1),
                (int) desk.get(slot, 2), (int) desk.get(slot, 6), (int) desk.get(slot, 7), (int) desk.get(slot, 8),
                (int) desk.get(slot, 9));
        // The parts are rests of divisions: they alone would not show a time of a day or more.
        Check.due("nanosecond of day at " + when, desk.get(slot, 11), when.toLocalTime().toNanoOfDay());
        return when;
    }

    static String text(TimeDesk desk, int slot) {
        StringBuilder all = new StringBuilder();
        for (int k = 0; desk.text(slot, k) >= 0; k++) {
            all.append((char) desk.text(slot, k));
        }
        return all.toString();
    }

    static void type(TimeDesk desk, String line) {
        for (char c : line.toCharArray()) {
            desk.type(c);
        }
    }
}

import java.math.BigInteger;
import java.time.LocalDate;
import java.time.LocalDateTime;
import java.time.ZoneOffset;
import java.util.Arrays;

/** A desk as the document's words say it, with the same face: what it answers is due from a TimeDesk. */
final class PlainDesk {
    private static final long FIRST_MOMENT = -377700000000L;
    private static final long LAST_MOMENT = 253400000000L;

    private final LocalDateTime[] slots = new LocalDateTime[8];
    private final PlainZone[] zones = new PlainZone[4];
    private String line = "";

    PlainDesk() {
        Arrays.fill(slots, LocalDateTime.of(1970, 1, 1, 0, 0));
        Arrays.setAll(zones, zone -> new PlainZone(0));
    }

    PlainZone zoneAt(int zone) {
        return zones[zone];
    }

    void date(int slot, int year, int month, int day) {
        slotIsThere(slot);
        argumentIsRight(PlainTime.isDate(year, month, day));
        slots[slot] = LocalDate.of(year, month, day).atTime(slots[slot].toLocalTime());
    }

    void time(int slot, int hour, int minute, int second, int nano) {
        slotIsThere(slot);
        argumentIsRight(PlainTime.isTime(hour, minute, second, nano));
        slots[slot] = slots[slot].toLocalDate().atTime(hour, minute, second, nano);
    }

    long get(int slot, int field) {
        slotIsThere(slot);
        isSupported(field >= 0 && field <= 15);
        return slots[slot].getLong(PlainTime.FIELDS[field]);
    }

    void with(int slot, int field, long value) {
        slotIsThere(slot);
        isSupported(field >= 0 && field <= 12 || field == 15);
        LocalDateTime set = PlainTime.with(slots[slot], field, value);
        argumentIsRight(set != null);
        slots[slot] = set;
    }

    void plus(int slot, long n, int unit) {
        slotIsThere(slot);
        isSupported(unit >= 0 && unit <= 13);
        becomes(slot, PlainTime.sum(slots[slot], n, unit));
    }

    long until(int slot, int other, int unit) {
        slotIsThere(slot);
        slotIsThere(other);
        isSupported(unit >= 0 && unit <= 13);
        BigInteger between = PlainTime.between(slots[slot], slots[other], unit);
        isCounted(between.bitLength() <= 63);
        return between.longValueExact();
    }

    int span(int slot, int other, int what) {
        slotIsThere(slot);
        slotIsThere(other);
        isSupported(what >= 0 && what <= 2);
        return PlainTime.span(slots[slot], slots[other], what);
    }

    void adjust(int slot, int how, int day) {
        slotIsThere(slot);
        argumentIsRight(how >= 0 && how <= 5 && day >= 1 && day <= 7);
        becomes(slot, PlainTime.adjusted(slots[slot], how, day));
    }

    int copy(int slot, int other) {
        slotIsThere(slot);
        slotIsThere(other);
        int order = Integer.signum(slots[other].compareTo(slots[slot]));
        slots[other] = slots[slot];
        return order;
    }

    boolean zone(int zone, int offset) {
        if (!isZone(zone) || !isOffset(offset)) {
            return false;
        }
        zones[zone] = new PlainZone(offset);
        return true;
    }

    boolean change(int zone, long moment, int offset) {
        return isZone(zone) && isOffset(offset) && isMoment(moment) && zones[zone].takesChange(moment)
                && zones[zone].change(moment, offset);
    }

    boolean rule(int zone, int month, int day, int week, int second, int offset) {
        return isZone(zone) && isOffset(offset) && month >= 1 && month <= 12 && (day >= 1 && day <= 28 || day == -1)
                && week >= 1 && week <= 7 && second >= 0 && second <= 86400 && zones[zone].takesRule()
                && zones[zone].rule(month, day, week, second, offset);
    }

    int offset(int zone, long moment) {
        argumentIsRight(isZone(zone) && isMoment(moment));
        return zones[zone].offset(moment);
    }

    long moment(int slot, int zone, boolean later) {
        slotIsThere(slot);
        argumentIsRight(isZone(zone));
        return zones[zone].moment(slots[slot].toEpochSecond(ZoneOffset.UTC), later);
    }

    void show(int slot, int zone, long moment) {
        slotIsThere(slot);
        argumentIsRight(isZone(zone));
        isCounted(isMoment(moment));
        becomes(slot, PlainTime.inCalendar(
                LocalDateTime.ofEpochSecond(moment + zones[zone].offset(moment), 0, ZoneOffset.UTC)));
    }

    double julian(int slot) {
        slotIsThere(slot);
        return PlainTime.julian(slots[slot]);
    }

    boolean type(char c) {
        if (c < 32 || c > 126 || line.length() >= 30) {
            return false;
        }
        line += c;
        return true;
    }

    void parse(int slot) {
        slotIsThere(slot);
        LocalDateTime read = PlainTime.read(line);
        line = "";
        argumentIsRight(read != null);
        slots[slot] = read;
    }

    int text(int slot, int k) {
        slotIsThere(slot);
        argumentIsRight(k >= 0);
        String text = slots[slot].toString();
        return k < text.length() ? text.charAt(k) : -1;
    }

    private void becomes(int slot, LocalDateTime when) {
        isCounted(when != null);
        slots[slot] = when;
    }

    private static boolean isZone(int zone) {
        return zone >= 0 && zone <= 3;
    }

    private static boolean isOffset(int offset) {
        return offset >= -64800 && offset <= 64800;
    }

    private static boolean isMoment(long moment) {
        return moment >= FIRST_MOMENT && moment <= LAST_MOMENT;
    }

    private static void slotIsThere(int slot) {
        if (slot < 0 || slot > 7) {
            throw new IndexOutOfBoundsException();
        }
    }

    private static void argumentIsRight(boolean isRight) {
        if (!isRight) {
            throw new IllegalArgumentException();
        }
    }

    private static void isSupported(boolean isSupported) {
        if (!isSupported) {
            throw new UnsupportedOperationException();
        }
    }

    private static void isCounted(boolean isCounted) {
        if (!isCounted) {
            throw new ArithmeticException();
        }
    }
}

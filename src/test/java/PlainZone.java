import java.time.DayOfWeek;
import java.time.LocalDate;
import java.time.temporal.TemporalAdjusters;
import java.util.ArrayList;
import java.util.List;
import java.util.TreeMap;

/** A zone as the document's words say it: all moments of all years written out, each with its offset. */
final class PlainZone {
    private final int first;
    private final TreeMap<Long, Integer> starts = new TreeMap<>();
    private long lastChange = Long.MIN_VALUE;
    private int changes = 0;
    private int rules = 0;

    PlainZone(int first) {
        this.first = first;
    }

    boolean takesChange(long moment) {
        return changes < 8 && rules == 0 && moment > lastChange;
    }

    boolean takesRule() {
        return rules < 2;
    }

    boolean isFull() {
        return changes == 8 && rules == 2;
    }

    boolean change(long moment, int offset) {
        starts.put(moment, offset);
        lastChange = moment;
        changes++;
        return true;
    }

    boolean rule(int month, int day, int week, int second, int offset) {
        for (int year = -9999; year <= 9999; year++) {
            long start = day(year, month, day, DayOfWeek.of(week)).toEpochDay() * 86400 + second;
            if (start > lastChange) {
                starts.put(start, offset);
            }
        }
        rules++;
        return true;
    }

    private static LocalDate day(int year, int month, int day, DayOfWeek week) {
        LocalDate first = LocalDate.of(year, month, 1);
        return day == -1 ? first.with(TemporalAdjusters.lastInMonth(week))
                : first.withDayOfMonth(day).with(TemporalAdjusters.nextOrSame(week));
    }

    int offset(long moment) {
        Long start = starts.floorKey(moment);
        return start == null ? first : starts.get(start);
    }

    List<Long> starts() {
        return new ArrayList<>(starts.keySet());
    }

    /** The next moment from this one on that has an offset of its own; this one if there is none. */
    long startFrom(long moment) {
        Long start = starts.ceilingKey(moment);
        return start == null ? moment : start;
    }

    long lastChange() {
        return lastChange;
    }

    /** Second by second through all that any offset reaches: slow, but nothing to get wrong. */
    long moment(long local, boolean later) {
        long found = Long.MIN_VALUE;
        long gap = Long.MAX_VALUE;
        long next = local - 64801;
        int offset = 0;
        for (long m = local - 64801; m <= local + 64801; m++) {
            if (m == next) {
                offset = offset(m);
                Long behind = starts.higherKey(m);
                next = behind == null ? Long.MAX_VALUE : behind;
            }
            if (m + offset == local && (later || found == Long.MIN_VALUE)) {
                found = m;
            }
            if (m + offset > local && gap == Long.MAX_VALUE) {
                gap = m;
            }
        }
        return found != Long.MIN_VALUE ? found : local - offset(gap - 1);
    }
}

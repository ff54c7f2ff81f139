import java.time.LocalDate;
import java.time.LocalDateTime;
import java.time.LocalTime;
import java.util.Random;

/** Dates and times for tests: any, but often at an edge. */
final class Times {
    private static final long[] NANOS = {0, 1, 999999999L, 43200000000000L, 86399999999999L, 86399000000000L};

    private Times() {
    }

    static LocalDateTime any(Random random) {
        return LocalDateTime.of(anyDate(random), anyTime(random));
    }

    static LocalDate anyDate(Random random) {
        int year = random.nextInt(10) == 0 ? (random.nextBoolean() ? -9999 : 9999) : random.nextInt(19999) - 9999;
        if (random.nextInt(3) == 0) {
            year = random.nextInt(4) > 0 ? 1995 + random.nextInt(10) : random.nextInt(5) - 2;
        }
        LocalDate month = LocalDate.of(year, 1 + random.nextInt(12), 1);
        switch (random.nextInt(4)) {
            case 0:
                return month.withDayOfMonth(month.lengthOfMonth());
            case 1:
                return month;
            default:
                return month.withDayOfMonth(1 + random.nextInt(month.lengthOfMonth()));
        }
    }

    static LocalTime anyTime(Random random) {
        long any = Math.floorMod(random.nextLong(), 86400000000000L);
        return LocalTime.ofNanoOfDay(random.nextBoolean() ? any : NANOS[random.nextInt(NANOS.length)]);
    }
}

import java.lang.reflect.Method;
import java.time.LocalDateTime;
import java.util.Random;

/** Calls on a twin, with arguments that mostly come to the point, often at an edge, now and then wrong. */
final class AnyCalls {
    private static final long[] EDGES = {0, 1, -1, 2, 3, 7, 8, 12, 13, 14, 15, 16, 28, 29, 59, 60, 9999, -9999, 10000,
        64800, -64800, 64801, 86400, 86399, 3600, 2932896, -4371587, 119999, -119988, 999999999, 1000000000,
        253400000000L, -377700000000L, 253399999999L, 86399999999999L, 86400000000000L,
        Integer.MAX_VALUE, Integer.MIN_VALUE, Long.MAX_VALUE, Long.MIN_VALUE, 1L << 62, 1L << 32};
    private static final long[] LEAST = {-9999, 1, 1, 1, -4371587, 1, 0, 0, 0, 0, 0, 0, 1, 1, -9999, -119988};
    private static final long[] MOST = {9999, 12, 31, 366, 2932896, 7, 23, 59, 59, 999999999, 86399, 86399999999999L,
        4, 53, 9999, 119999};
    private static final String CHARACTERS = "0123456789-:T. tZ+/;";
    private static final long FIRST_MOMENT = -377700000000L;
    private static final long LAST_MOMENT = 253400000000L;

    private final Random random;

    AnyCalls(long seed) {
        random = new Random(seed);
    }

    /** One call of any method with numbers of all sizes. */
    void wild(Twin twin) {
        Method[] methods = Twin.methods();
        Method method = methods[random.nextInt(methods.length)];
        Object[] arguments = new Object[method.getParameterCount()];
        for (int i = 0; i < arguments.length; i++) {
            Class<?> type = method.getParameterTypes()[i];
            if (type == boolean.class) {
                arguments[i] = random.nextBoolean();
            } else if (type == char.class) {
                arguments[i] = (char) (random.nextBoolean() ? random.nextInt(300) : random.nextInt(65536));
            } else {
                arguments[i] = i == 0 && random.nextInt(10) > 0 ? random.nextInt(4) : wildNumber();
            }
        }
        twin.call(method.getName(), arguments);
    }

    /** Four zones with eight changes and two rules each, of which none is refused, and then eight slots. */
    void fill(Twin twin) {
        for (int zone = 0; zone < 4; zone++) {
            twin.call("zone", zone, rightOffset());
            long moment = random.nextBoolean() ? FIRST_MOMENT : within(FIRST_MOMENT, LAST_MOMENT - 10000000);
            int step = random.nextBoolean() ? 20 : 100000;
            for (int i = 0; i < 8; i++) {
                twin.call("change", zone, moment, rightOffset());
                moment += 1 + random.nextInt(step);
            }
            rule(twin, zone, false);
            rule(twin, zone, false);
            Check.due("zone " + zone + " is full", twin.plain.zoneAt(zone).isFull(), true);
        }
        for (int slot = 0; slot < 8; slot++) {
            set(twin, slot);
        }
    }

    /** One call or a few that belong together, and often a look at what came of them. */
    void next(Twin twin) {
        int slot = slot();
        switch (random.nextInt(20)) {
            case 0:
            case 1:
                set(twin, slot);
                break;
            case 2:
            case 3:
                int field = random.nextInt(16);
                twin.call("with", slot, seldom() ? wildNumber() : field, seldom() ? wildNumber() : value(field));
                break;
            case 4:
            case 5:
                twin.call("plus", slot, amount(), unit());
                break;
            case 6:
                twin.call("until", slot, slot(), unit());
                break;
            case 7:
                twin.call("span", slot, slot(), seldom() ? wildNumber() : random.nextInt(3));
                break;
            case 8:
                twin.call("adjust", slot, seldom() ? wildNumber() : random.nextInt(6), weekday());
                break;
            case 9:
                twin.call("copy", slot, slot());
                break;
            case 10:
            case 11:
            case 12:
            case 13:
                settle(twin, slot);
                break;
            case 14:
                int zone = zone();
                twin.call("offset", zone, moment(twin, zone));
                break;
            case 15:
                write(twin, slot);
                break;
            case 16:
                build(twin);
                break;
            default:
                look(twin, slot);
        }
        if (random.nextBoolean()) {
            look(twin, slot);
        }
    }

    private void set(Twin twin, int slot) {
        LocalDateTime when = Times.any(random);
        int wrong = seldom() ? random.nextInt(7) : -1;
        twin.call("date", slot, wrong == 0 ? wildNumber() : when.getYear(),
                wrong == 1 ? wildNumber() : when.getMonthValue(), wrong == 2 ? wildNumber() : when.getDayOfMonth());
        twin.call("time", slot, wrong == 3 ? wildNumber() : when.getHour(),
                wrong == 4 ? wildNumber() : when.getMinute(), wrong == 5 ? wildNumber() : when.getSecond(),
                wrong == 6 ? wildNumber() : when.getNano());
    }

    private void look(Twin twin, int slot) {
        switch (random.nextInt(5)) {
            case 0:
                twin.call("julian", slot);
                break;
            case 1:
                twin.call("text", slot, seldom() ? wildNumber() : random.nextInt(32));
                break;
            case 2:
                twin.call("get", slot, seldom() ? wildNumber() : random.nextInt(16));
                break;
            default:
                twin.call("get", slot, 4);
                twin.call("get", slot, 11);
        }
    }

    /** A slot near what a zone shows when its offset changes, and its moments. */
    private void settle(Twin twin, int slot) {
        int zone = zone();
        twin.call("show", slot, zone, moment(twin, zone));
        if (random.nextBoolean()) {
            twin.call("plus", slot, random.nextInt(140001) - 70000, 3);
        }
        if (random.nextInt(4) == 0) {
            twin.call("with", slot, 9, random.nextInt(1000000000));
        }
        twin.call("moment", slot, zone, false);
        twin.call("moment", slot, zone, true);
    }

    /** A text in the line, now and then a bent one or with other calls between, and then read. */
    private void write(Twin twin, int slot) {
        StringBuilder text = new StringBuilder(Times.any(random).toString());
        if (random.nextInt(10) == 0) {
            text.insert(0, '-');
        }
        if (random.nextInt(4) == 0) {
            text.setLength(random.nextInt(text.length() + 1));
        }
        if (random.nextInt(4) == 0 && text.length() > 0) {
            text.setCharAt(random.nextInt(text.length()), CHARACTERS.charAt(random.nextInt(CHARACTERS.length())));
        }
        for (int i = 0; i < text.length(); i++) {
            twin.call("type", text.charAt(i));
            if (random.nextInt(40) == 0) {
                look(twin, slot());
            }
            if (random.nextInt(60) == 0) {
                twin.call("type", (char) random.nextInt(65536));
            }
        }
        twin.call("parse", slot);
    }

    private void build(Twin twin) {
        int zone = zone();
        switch (random.nextInt(6)) {
            case 0:
                twin.call("zone", zone, offset());
                break;
            case 1:
                rule(twin, zone, seldom());
                break;
            default:
                long last = zone >= 0 && zone < 4 ? twin.plain.zoneAt(zone).lastChange() : 0;
                long behind = last == Long.MIN_VALUE ? within(FIRST_MOMENT, 0) : last;
                twin.call("change", zone, seldom() ? wildNumber() : behind + random.nextInt(100000), offset());
        }
    }

    /** Often about new year, where one rule's moment may be that of another year's other rule. */
    private void rule(Twin twin, int zone, boolean isWrong) {
        int wrong = isWrong ? random.nextInt(5) : -1;
        int month = random.nextBoolean() ? 1 + random.nextInt(12) : random.nextBoolean() ? 12 : 1;
        int day = random.nextInt(3) == 0 ? -1 : month == 12 ? 28 : month == 1 ? 1 : 1 + random.nextInt(28);
        int second = random.nextInt(3) == 0 ? random.nextInt(86401) : random.nextBoolean() ? 0 : 86400;
        twin.call("rule", zone, wrong == 0 ? wildNumber() : month, wrong == 1 ? wildNumber() : day,
                wrong == 2 ? wildNumber() : 1 + random.nextInt(7), wrong == 3 ? wildNumber() : second,
                wrong == 4 ? wildNumber() : rightOffset());
    }

    private boolean seldom() {
        return random.nextInt(30) == 0;
    }

    private long within(long least, long most) {
        return least + Math.floorMod(random.nextLong(), most - least + 1);
    }

    private long wildNumber() {
        switch (random.nextInt(4)) {
            case 0:
                return EDGES[random.nextInt(EDGES.length)];
            case 1:
                return random.nextLong() >> random.nextInt(64);
            default:
                return random.nextInt(random.nextBoolean() ? 9 : 30) - 1;
        }
    }

    private int slot() {
        return seldom() ? (int) wildNumber() : random.nextInt(8);
    }

    private int zone() {
        return seldom() ? (int) wildNumber() : random.nextInt(4);
    }

    private int unit() {
        return seldom() ? (int) wildNumber() : random.nextInt(14);
    }

    private int weekday() {
        return seldom() ? (int) wildNumber() : 1 + random.nextInt(7);
    }

    private long amount() {
        return random.nextBoolean() ? random.nextInt(2001) - 1000 : random.nextLong() >> random.nextInt(64);
    }

    private int offset() {
        return seldom() ? (int) wildNumber() : rightOffset();
    }

    private int rightOffset() {
        int[] often = {-64800, 64800, 0, 3600, 7200, 1, -1};
        return random.nextBoolean() ? often[random.nextInt(often.length)] : random.nextInt(129601) - 64800;
    }

    private long value(int field) {
        switch (random.nextInt(4)) {
            case 0:
                return LEAST[field] + random.nextInt(3) - 1;
            case 1:
                return MOST[field] + random.nextInt(3) - 1;
            default:
                return within(LEAST[field], MOST[field]);
        }
    }

    /** Mostly near a change or a rule's moment of the zone. */
    private long moment(Twin twin, int zone) {
        if (seldom() || zone < 0 || zone > 3) {
            return wildNumber();
        }
        if (random.nextInt(10) == 0) {
            return (random.nextBoolean() ? FIRST_MOMENT : LAST_MOMENT) + random.nextInt(3) - 1;
        }
        PlainZone plain = twin.plain.zoneAt(zone);
        long from = random.nextBoolean() ? FIRST_MOMENT : within(FIRST_MOMENT, LAST_MOMENT);
        // Changes may stand so far apart from all that is near to any moment that none would be met.
        if (random.nextInt(3) == 0 && plain.lastChange() != Long.MIN_VALUE) {
            from = plain.lastChange() - random.nextInt(1000000);
        }
        long start = plain.startFrom(from);
        return random.nextBoolean() ? start + random.nextInt(5) - 2 : start + random.nextInt(140001) - 70000;
    }
}

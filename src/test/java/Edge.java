import java.time.LocalDateTime;

/** What the tests of boundary cases share: desks in a known state, and all that can be seen of a desk. */
final class Edge {
    static final Class<?> INDEX = IndexOutOfBoundsException.class;
    static final Class<?> ARGUMENT = IllegalArgumentException.class;
    static final Class<?> SUPPORT = UnsupportedOperationException.class;
    static final Class<?> ARITHMETIC = ArithmeticException.class;

    static final String FIRST = "-9999-01-01T00:00";
    static final String LAST = "9999-12-31T23:59:59.999999999";
    static final long FIRST_MOMENT = -377700000000L;
    static final long LAST_MOMENT = 253400000000L;

    private static final String[] SLOTS = {"2024-02-29T13:05:09.12", FIRST, LAST, "-0001-12-31T23:59:59.999999999",
        "2000-01-31T12:00", "0000-01-01T00:00:00.000000001", "2023-03-26T02:30", "2021-01-03T00:00:01"};
    private static final long[] MOMENTS = {FIRST_MOMENT, -1, 0, 999, 1000, 1001, 1007, 1700000000L, 1710000000L,
        1720000000L, 1730000000L, LAST_MOMENT};

    /** Calls on a desk. */
    interface Call {
        void on(TimeDesk desk);
    }

    /** A call on a desk that may refuse. */
    interface Asked {
        boolean on(TimeDesk desk);
    }

    private Edge() {
    }

    /**
     * A desk that nothing is as new of: a date begun in the line, in zone 0 two rules, in zone 1 three changes,
     * in zone 2 eight changes and a rule, in zone 3 only a first offset.
     */
    static TimeDesk used() {
        TimeDesk desk = new TimeDesk();
        for (int slot = 0; slot < SLOTS.length; slot++) {
            Desk.put(desk, slot, SLOTS[slot]);
        }
        desk.zone(0, 3600);
        desk.rule(0, 3, -1, 7, 3600, 7200);
        desk.rule(0, 10, -1, 7, 3600, 3600);
        desk.zone(1, -3600);
        desk.change(1, -1, 1);
        desk.change(1, 1000, 2);
        desk.change(1, 1001, 3);
        desk.zone(2, 77);
        for (int i = 0; i < 8; i++) {
            desk.change(2, 1000 + i, -i);
        }
        desk.rule(2, 6, 1, 1, 0, 4);
        desk.zone(3, -64800);
        Desk.type(desk, "2024-02-2");
        return desk;
    }

    static TimeDesk holding(String when) {
        TimeDesk desk = used();
        Desk.put(desk, 0, when);
        return desk;
    }

    /** All that can be seen of a desk. It is used up: what it still takes is found out by filling it. */
    static String seen(TimeDesk desk) {
        StringBuilder all = new StringBuilder();
        for (int slot = 0; slot < 8; slot++) {
            all.append(desk.get(slot, 4)).append('/').append(desk.get(slot, 11)).append(' ');
        }
        offsets(desk, all);
        for (int zone = 0; zone < 4; zone++) {
            all.append(" zone ").append(zone).append(" takes ").append(changesTaken(desk, zone)).append(" changes, ")
                    .append(rulesTaken(desk, zone)).append(" rules");
        }
        offsets(desk, all);
        // Whatever stands in the line is read with this behind it.
        Desk.type(desk, "9T01:02");
        all.append(" reads ").append(Check.thrown(() -> { desk.parse(0); return 0; }))
                .append(' ').append(Desk.text(desk, 0));
        all.append(" has room for ").append(room(desk));
        return all.toString();
    }

    private static void offsets(TimeDesk desk, StringBuilder all) {
        for (int zone = 0; zone < 4; zone++) {
            all.append(" zone ").append(zone).append(':');
            for (long moment : MOMENTS) {
                all.append(' ').append(desk.offset(zone, moment));
            }
        }
    }

    /** How many changes a zone still takes: they are tried near its end, where none of these tests puts one. */
    static int changesTaken(TimeDesk desk, int zone) {
        int taken = 0;
        while (taken < 20 && desk.change(zone, LAST_MOMENT - 20 + taken, 0)) {
            taken++;
        }
        return taken;
    }

    static int rulesTaken(TimeDesk desk, int zone) {
        int taken = 0;
        while (taken < 20 && desk.rule(zone, 5, 1, 1, 0, 50 + taken)) {
            taken++;
        }
        return taken;
    }

    /** How many characters the line still takes. */
    static int room(TimeDesk desk) {
        int taken = 0;
        while (taken < 40 && desk.type('x')) {
            taken++;
        }
        return taken;
    }

    /** What is thrown changes nothing: the desk is then as one that was never asked. */
    static void throwsOn(String told, Class<?> want, Call before, Call call) {
        TimeDesk asked = used();
        TimeDesk spared = used();
        before.on(asked);
        before.on(spared);
        Check.dueThrow(told, want, () -> { call.on(asked); return 0; });
        Check.due(told + " changes nothing", seen(asked), seen(spared));
    }

    static void throwsOn(String told, Class<?> want, Call call) {
        throwsOn(told, want, desk -> { }, call);
    }

    /** With this date and time in slot 0. */
    static void throwsAt(String when, String told, Class<?> want, Call call) {
        throwsOn(when + " " + told, want, desk -> Desk.put(desk, 0, when), call);
    }

    static void refuses(String told, Call before, Asked call) {
        TimeDesk asked = used();
        TimeDesk spared = used();
        before.on(asked);
        before.on(spared);
        Check.due(told, call.on(asked), false);
        Check.due(told + " changes nothing", seen(asked), seen(spared));
    }

    static void refuses(String told, Asked call) {
        refuses(told, desk -> { }, call);
    }

    static void takes(String told, Asked call) {
        Check.due(told, call.on(used()), true);
    }

    /** Slot 0 goes from one date and time to another one by this call; the other slots stay. */
    static void leads(String from, String told, Call call, String to) {
        TimeDesk desk = holding(from);
        Class<?> thrown = Check.thrown(() -> { call.on(desk); return 0; });
        Check.due(from + " " + told + " throws " + thrown, thrown == null, true);
        Check.due(from + " " + told, Desk.take(desk, 0), LocalDateTime.parse(to));
        for (int slot = 1; slot < SLOTS.length; slot++) {
            Check.due(told + " leaves slot " + slot, Desk.take(desk, slot), LocalDateTime.parse(SLOTS[slot]));
        }
    }
}

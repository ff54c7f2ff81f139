import java.time.LocalDateTime;
import java.time.ZoneOffset;
import java.util.List;
import java.util.Random;

/** Promises 11 (zone), 12 (change), 13 (rule), 14 (offset), 15 (moment) and 16 (show). */
public final class ZonesTest {
    private static final Class<?> ARGUMENT = IllegalArgumentException.class;
    private static final Class<?> ARITHMETIC = ArithmeticException.class;
    private static final long FIRST = -377700000000L;
    private static final long LAST = 253400000000L;
    private static final int[] WRONG_ZONES = {-1, 4, Integer.MIN_VALUE, Integer.MAX_VALUE};
    private static final int[] WRONG_OFFSETS = {-64801, 64801, Integer.MIN_VALUE, Integer.MAX_VALUE};

    public static void main(String[] args) {
        zones();
        changes();
        rules();
        offsets();
        rulesOverNewYear();
        rulesAtOneMoment();
        settling();
        calendarEdges();
        gapsOverNewYear();
        shows();
        wrongMoments();
        anyZones();
        anyRulesAroundNewYear();
        Check.end();
    }

    private static void zones() {
        TimeDesk desk = new TimeDesk();
        for (int zone = 0; zone < 4; zone++) {
            Check.due("zone", desk.zone(zone, -64800), true);
            Check.due("offset", desk.offset(zone, 7), -64800);
            Check.due("zone", desk.zone(zone, 64800), true);
            Check.due("offset", desk.offset(zone, 7), 64800);
            for (int offset : WRONG_OFFSETS) {
                Check.due("zone with " + offset, desk.zone(zone, offset), false);
            }
            Check.due("offset", desk.offset(zone, 7), 64800);
        }
        for (int zone : WRONG_ZONES) {
            Check.due("zone " + zone, desk.zone(zone, 0), false);
        }
        desk.change(2, 0, 1);
        desk.rule(2, 1, 1, 1, 0, 2);
        desk.rule(2, 2, 1, 1, 0, 3);
        desk.zone(2, 64801);
        Check.due("refused, it keeps its change", desk.offset(2, 0), 1);
        Check.due("and its rules", desk.rule(2, 2, 1, 1, 0, 3), false);
        Check.due("zone anew", desk.zone(2, 9), true);
        Check.due("without changes and rules", desk.offset(2, 1700000000), 9);
        Check.due("without rules", desk.change(2, FIRST, 4), true);
        Check.due("other zones stay", desk.offset(3, 0), 64800);
    }

    private static void changes() {
        TimeDesk desk = new TimeDesk();
        Check.due("before the first moment", desk.change(1, FIRST - 1, 1), false);
        Check.due("at the first moment", desk.change(1, FIRST, 1), true);
        Check.due("at the same", desk.change(1, FIRST, 2), false);
        Check.due("a second later", desk.change(1, FIRST + 1, 2), true);
        Check.due("earlier", desk.change(1, FIRST, 3), false);
        for (int offset : WRONG_OFFSETS) {
            Check.due("change to " + offset, desk.change(1, 0, offset), false);
        }
        for (int zone : WRONG_ZONES) {
            Check.due("change of " + zone, desk.change(zone, 0, 0), false);
        }
        Check.due("least offset", desk.change(1, 100, -64800), true);
        Check.due("greatest offset", desk.change(1, 101, 64800), true);
        Check.due("fifth", desk.change(1, 200, 5), true);
        Check.due("sixth", desk.change(1, 300, 6), true);
        Check.due("behind the last moment", desk.change(1, LAST + 1, 7), false);
        Check.due("far behind", desk.change(1, Long.MAX_VALUE, 7), false);
        Check.due("far before", desk.change(1, Long.MIN_VALUE, 7), false);
        Check.due("seventh", desk.change(1, 400, 7), true);
        Check.due("eighth at the last moment", desk.change(1, LAST, 8), true);
        Check.due("no change behind it", desk.change(1, LAST, 9), false);
        long[] at = {FIRST, FIRST + 1, 99, 100, 101, 199, 200, 299, 300, 400, LAST - 1, LAST};
        int[] want = {1, 2, 2, -64800, 64800, 64800, 5, 5, 6, 7, 7, 8};
        for (int i = 0; i < at.length; i++) {
            Check.due("offset at " + at[i], desk.offset(1, at[i]), want[i]);
        }
        TimeDesk full = new TimeDesk();
        for (int i = 0; i < 8; i++) {
            Check.due("one of eight", full.change(0, i, i), true);
        }
        Check.due("ninth", full.change(0, 8, 8), false);
        Check.due("a rule behind eight changes", full.rule(0, 1, 1, 1, 0, 0), true);
        TimeDesk ruled = new TimeDesk();
        ruled.rule(3, 1, 1, 1, 0, 77);
        Check.due("a change behind a rule", ruled.change(3, 0, 1), false);
        Check.due("the rule stays", ruled.offset(3, 0), 77);
    }

    private static void rules() {
        TimeDesk desk = new TimeDesk();
        for (int zone : WRONG_ZONES) {
            Check.due("rule of zone " + zone, desk.rule(zone, 1, 1, 1, 0, 0), false);
        }
        for (int month : new int[] {0, 13, -1, Integer.MIN_VALUE, Integer.MAX_VALUE}) {
            Check.due("rule in month " + month, desk.rule(0, month, 1, 1, 0, 0), false);
        }
        for (int day : new int[] {0, 29, -2, Integer.MIN_VALUE, Integer.MAX_VALUE}) {
            Check.due("rule from day " + day, desk.rule(0, 1, day, 1, 0, 0), false);
        }
        for (int week : new int[] {0, 8, -1, Integer.MIN_VALUE, Integer.MAX_VALUE}) {
            Check.due("rule on " + week, desk.rule(0, 1, 1, week, 0, 0), false);
        }
        for (int second : new int[] {-1, 86401, Integer.MIN_VALUE, Integer.MAX_VALUE}) {
            Check.due("rule at " + second, desk.rule(0, 1, 1, 1, second, 0), false);
        }
        for (int offset : WRONG_OFFSETS) {
            Check.due("rule to " + offset, desk.rule(0, 1, 1, 1, 0, offset), false);
        }
        Check.due("refused ones left no rule", desk.change(0, 0, 0), true);
        Check.due("first", desk.rule(0, 12, 28, 7, 86400, -64800), true);
        Check.due("second", desk.rule(0, 1, -1, 1, 0, 64800), true);
        Check.due("third", desk.rule(0, 2, 1, 1, 0, 0), false);
        Check.due("of another zone", desk.rule(1, 2, 1, 1, 0, 0), true);
    }

    private static long utc(String when) {
        return LocalDateTime.parse(when).toEpochSecond(ZoneOffset.UTC);
    }

    private static void offsets() {
        TimeDesk desk = new TimeDesk();
        desk.zone(0, 5);
        desk.change(0, utc("2020-03-29T01:00:00"), 6);
        desk.rule(0, 3, -1, 7, 3600, 7);
        desk.rule(0, 10, 25, 7, 3600, 8);
        // The rule's moment of 2020 is that of the change, so it does not lie behind it.
        Check.due("before the change", desk.offset(0, utc("2020-03-29T00:59:59")), 5);
        Check.due("at the change", desk.offset(0, utc("2020-03-29T01:00:00")), 6);
        Check.due("before the other rule", desk.offset(0, utc("2020-10-25T00:59:59")), 6);
        Check.due("at the other rule", desk.offset(0, utc("2020-10-25T01:00:00")), 8);
        Check.due("before the rule", desk.offset(0, utc("2021-03-28T00:59:59")), 8);
        Check.due("at the rule", desk.offset(0, utc("2021-03-28T01:00:00")), 7);
        Check.due("October has a later Sunday than day 25", desk.offset(0, utc("2021-10-31T00:59:59")), 7);
        Check.due("that one", desk.offset(0, utc("2021-10-31T01:00:00")), 8);
        Check.due("last moment", desk.offset(0, LAST), 8);

        desk.rule(1, 5, 1, 1, 0, 11);
        desk.rule(1, 5, 1, 1, 0, 12);
        Check.due("of two at the same moment the later rule", desk.offset(1, utc("2021-06-01T00:00:00")), 12);
        Check.due("without changes all count", desk.offset(1, FIRST), 0);
        Check.due("from the first year on", desk.offset(1, utc("-9998-01-01T00:00:00")), 12);
        desk.rule(2, 1, 2, 2, 0, 21);
        desk.rule(2, 1, 1, 1, 86400, 22);
        // The first Monday's 86400 is always the 0 of the first Tuesday from day 2 on.
        Check.due("86400 is the next day's 0", desk.offset(2, utc("2022-06-01T00:00:00")), 22);
        desk.zone(2, 20);
        desk.rule(2, 1, 1, 1, 86400, 22);
        desk.rule(2, 1, 2, 2, 0, 21);
        Check.due("the same, added later", desk.offset(2, utc("2022-06-01T00:00:00")), 21);
        desk.rule(3, 1, 2, 2, 0, 31);
        desk.rule(3, 12, 1, 1, 0, 32);
        Check.due("from day d itself", desk.offset(3, utc("2018-01-02T00:00:00")), 31);
        Check.due("not before", desk.offset(3, utc("2018-01-01T23:59:59")), 32);
    }

    /** The first day w that is not before the 28th may lie in the next month or year. */
    private static void rulesOverNewYear() {
        TimeDesk desk = new TimeDesk();
        desk.rule(0, 12, 28, 3, 0, 100);
        // 2023-12-28 is a Thursday, so that its Wednesday is 2024-01-03.
        desk.rule(0, 6, 1, 1, 0, 50);
        Check.due("new year's day", desk.offset(0, utc("2024-01-01T00:00:00")), 50);
        Check.due("the second before", desk.offset(0, utc("2024-01-02T23:59:59")), 50);
        Check.due("the Wednesday", desk.offset(0, utc("2024-01-03T00:00:00")), 100);
        Check.due("the next year's is in December", desk.offset(0, utc("2025-01-01T00:00:00")), 100);
        desk.zone(1, 9);
        desk.rule(1, 12, 28, 3, 86400, 100);
        Check.due("the rule's moment before last", desk.offset(1, utc("2024-01-03T23:59:59")), 100);
        desk.change(2, utc("2024-01-01T00:00:00"), 30);
        desk.rule(2, 12, 28, 3, 0, 100);
        Check.due("behind the change, of the year before", desk.offset(2, utc("2024-01-03T00:00:00")), 100);
        Check.due("not yet", desk.offset(2, utc("2024-01-02T23:59:59")), 30);
        desk.rule(3, 2, 28, 7, 0, 40);
        Check.due("in March", desk.offset(3, utc("2024-03-03T00:00:00")), 40);
    }

    /** A moment that one rule has for one year and the other rule for the next one. */
    private static void rulesAtOneMoment() {
        long monday = utc("2023-01-02T00:00:00");
        TimeDesk desk = new TimeDesk();
        desk.rule(0, 1, 1, 1, 0, 3600);
        desk.rule(0, 12, 28, 1, 0, 7200);
        desk.rule(1, 12, 28, 1, 0, 7200);
        desk.rule(1, 1, 1, 1, 0, 3600);
        for (long moment : new long[] {monday, monday + 1, utc("2023-12-31T23:59:59")}) {
            Check.due("December's was added later", desk.offset(0, moment), 7200);
            Check.due("January's was added later", desk.offset(1, moment), 3600);
        }
        // 2021-12-28 is a Tuesday, so that its Monday is the first one of 2022 too; 2023-12-28 is
        // a Thursday, and 2024-01-01 a Monday; 2024-12-28 is a Saturday, its Monday in December.
        Check.due("December's", desk.offset(0, monday - 1), 7200);
        Check.due("January's", desk.offset(1, monday - 1), 3600);
        Check.due("first December's", desk.offset(0, utc("2024-12-30T00:00:00")), 7200);
        Check.due("then January's", desk.offset(0, utc("2025-01-06T00:00:00")), 3600);
        desk.show(0, 0, utc("2023-06-01T00:00:00"));
        Check.due("show", Desk.text(desk, 0), "2023-06-01T02:00");
        settle(desk, 0, "2023-06-01T02:00", utc("2023-06-01T00:00:00"), utc("2023-06-01T00:00:00"));
        settle(desk, 1, "2023-06-01T02:00", utc("2023-06-01T01:00:00"), utc("2023-06-01T01:00:00"));

        // The second 86400 of December 31, a Sunday, is the second 0 of Monday, January 1.
        desk.rule(2, 1, 1, 1, 0, 3600);
        desk.rule(2, 12, -1, 7, 86400, 7200);
        desk.rule(3, 12, -1, 7, 86400, 7200);
        desk.rule(3, 1, 1, 1, 0, 3600);
        Check.due("the end of December's day", desk.offset(2, utc("2024-01-01T00:00:00")), 7200);
        Check.due("the beginning of January's day", desk.offset(3, utc("2024-01-01T00:00:00")), 3600);

        // Behind a change both count, at the change neither does.
        for (int behind = 0; behind <= 1; behind++) {
            desk.zone(0, 0);
            desk.change(0, monday - behind, 1);
            desk.rule(0, 1, 1, 1, 0, 3600);
            desk.rule(0, 12, 28, 1, 0, 7200);
            Check.due("change " + behind + " before", desk.offset(0, monday), behind == 1 ? 7200 : 1);
        }
    }

    private static void settle(TimeDesk desk, int zone, String when, long first, long last) {
        Desk.put(desk, 6, when);
        Check.due("moment of " + when, desk.moment(6, zone, false), first);
        Check.due("later moment of " + when, desk.moment(6, zone, true), last);
        Check.due("the slot stays", Desk.take(desk, 6), LocalDateTime.parse(when));
    }

    private static void settling() {
        TimeDesk desk = new TimeDesk();
        desk.zone(0, 3600);
        desk.rule(0, 3, -1, 7, 3600, 7200);
        desk.rule(0, 10, -1, 7, 3600, 3600);
        settle(desk, 0, "2024-03-31T01:59:59.999999999", 1711846799L, 1711846799L);
        settle(desk, 0, "2024-03-31T02:00", 1711846800L, 1711846800L);
        settle(desk, 0, "2024-03-31T02:59:59.999999999", 1711850399L, 1711850399L);
        settle(desk, 0, "2024-03-31T03:00", 1711846800L, 1711846800L);
        settle(desk, 0, "2024-10-27T01:59:59", 1729987199L, 1729987199L);
        settle(desk, 0, "2024-10-27T02:00", 1729987200L, 1729990800L);
        settle(desk, 0, "2024-10-27T02:59:59", 1729990799L, 1729994399L);
        settle(desk, 0, "2024-10-27T03:00", 1729994400L, 1729994400L);
        // Three times back by an hour: four moments show the same.
        desk.change(1, 3600, -3600);
        desk.change(1, 7200, -7200);
        desk.change(1, 10800, -10800);
        settle(desk, 1, "1970-01-01T00:30", 1800L, 12600L);
        settle(desk, 1, "1969-12-31T23:59:59", -1L, -1L);
        // Two gaps in a row: the offset before the first moment that shows a later time.
        desk.change(2, 0, 3600);
        desk.change(2, 10, 10000);
        settle(desk, 2, "1970-01-01T00:59:59", 3599L, 3599L);
        settle(desk, 2, "1970-01-01T01:00:09", 9L, 9L);
        settle(desk, 2, "1970-01-01T01:00:10", 10L, 10L);
        settle(desk, 2, "1970-01-01T02:46:49", 6409L, 6409L);
        settle(desk, 2, "1970-01-01T02:46:50", 10L, 10L);
        // Back, and then over what has not been shown.
        desk.change(3, 0, -3600);
        desk.change(3, 60, 64800);
        settle(desk, 3, "1969-12-31T23:00:30", -3570L, 30L);
        settle(desk, 3, "1970-01-01T00:00", 3600L, 3600L);
        settle(desk, 3, "1970-01-01T18:00:59", 68459L, 68459L);
        settle(desk, 3, "1970-01-01T18:01", 60L, 60L);
    }

    /** Slots at the calendar's ends have moments beyond its years; rules have none there. */
    private static void calendarEdges() {
        TimeDesk desk = new TimeDesk();
        long first = Desk.FIRST.toEpochSecond(ZoneOffset.UTC);
        long last = Desk.LAST.toEpochSecond(ZoneOffset.UTC);
        desk.zone(0, 64800);
        desk.zone(1, -64800);
        settle(desk, 0, "-9999-01-01T00:00", first - 64800, first - 64800);
        settle(desk, 1, "9999-12-31T23:59:59.999999999", last + 64800, last + 64800);
        desk.zone(2, 0);
        desk.rule(2, 1, 1, 1, 0, 64800);
        settle(desk, 2, "-9999-01-01T00:00", first, first);
        settle(desk, 2, "-9999-01-01T18:00", first, first);
        settle(desk, 2, "9999-12-31T23:59:59", last - 64800, last - 64800);
        desk.zone(3, 0);
        desk.rule(3, 12, 28, 1, 0, -64800);
        settle(desk, 3, "9999-12-31T23:59:59", last + 64800, last + 64800);
        desk.zone(3, 0);
        desk.rule(3, 12, 28, 6, 0, -64800);
        desk.rule(3, 12, 1, 6, 0, 0);
        settle(desk, 3, "9999-12-31T12:00", last + 1 - 43200, last + 1 + 64800 - 43200);
        // The year 10000, whose first day is a Saturday, has no moment of a rule.
        desk.zone(3, 0);
        desk.rule(3, 2, 1, 1, 0, -64800);
        desk.rule(3, 1, 1, 6, 0, 0);
        settle(desk, 3, "9999-12-31T12:00", last + 1 + 64800 - 43200, last + 1 + 64800 - 43200);
    }

    /** The gap of a rule whose moment lies in another year than the date and time. */
    private static void gapsOverNewYear() {
        TimeDesk desk = new TimeDesk();
        desk.rule(0, 1, 1, 1, 0, 0);
        desk.rule(0, 6, 1, 1, 0, -64800);
        long monday = utc("2024-01-01T00:00:00");
        settle(desk, 0, "2023-12-31T05:59:59", monday - 1, monday - 1);
        settle(desk, 0, "2023-12-31T06:00", monday, monday);
        settle(desk, 0, "2023-12-31T12:00", monday + 21600, monday + 21600);
        settle(desk, 0, "2024-01-01T00:00", monday, monday);
        desk.rule(1, 12, -1, 7, 86399, 64800);
        desk.rule(1, 6, 1, 1, 0, 0);
        settle(desk, 1, "2023-12-31T23:59:58", monday - 2, monday - 2);
        settle(desk, 1, "2024-01-01T00:00", monday, monday);
        settle(desk, 1, "2024-01-01T17:59:58", monday + 64798, monday + 64798);
        settle(desk, 1, "2024-01-01T17:59:59", monday - 1, monday - 1);
        // A rule of December whose Wednesday is 2024-01-03.
        desk.rule(2, 12, 28, 3, 0, 3600);
        desk.rule(2, 6, 1, 1, 0, 0);
        settle(desk, 2, "2024-01-03T00:30", monday + 174600, monday + 174600);
        settle(desk, 2, "2024-01-03T01:00", monday + 172800, monday + 172800);
    }

    private static void shows() {
        TimeDesk desk = new TimeDesk();
        desk.zone(0, 3600);
        desk.rule(0, 3, -1, 7, 3600, 7200);
        desk.rule(0, 10, -1, 7, 3600, 3600);
        desk.time(4, 1, 2, 3, 4);
        desk.show(4, 0, 1711846799L);
        Check.due("show", Desk.text(desk, 4), "2024-03-31T01:59:59");
        desk.show(4, 0, 1711846800L);
        Check.due("show", Desk.text(desk, 4), "2024-03-31T03:00");
        desk.show(4, 0, -1L);
        Check.due("show", Desk.text(desk, 4), "1970-01-01T00:59:59");
        desk.show(4, 1, -1L);
        Check.due("show", Desk.text(desk, 4), "1969-12-31T23:59:59");
        desk.zone(2, -64800);
        desk.show(4, 2, FIRST);
        Check.due("show the first", Desk.take(desk, 4),
                LocalDateTime.ofEpochSecond(FIRST - 64800, 0, ZoneOffset.UTC));
        desk.zone(2, 64800);
        desk.show(4, 2, LAST);
        Check.due("show the last", Desk.take(desk, 4), LocalDateTime.ofEpochSecond(LAST + 64800, 0, ZoneOffset.UTC));
        Check.due("other slots stay", Desk.text(desk, 3), "1970-01-01T00:00");
    }

    private static void wrongMoments() {
        TimeDesk desk = new TimeDesk();
        desk.time(0, 1, 2, 3, 4);
        for (long moment : new long[] {FIRST - 1, LAST + 1, Long.MIN_VALUE, Long.MAX_VALUE}) {
            Check.dueThrow("offset at " + moment, ARGUMENT, () -> desk.offset(0, moment));
            Check.dueThrow("show " + moment, ARITHMETIC, () -> { desk.show(0, 0, moment); return 0; });
            Check.dueThrow("show " + moment, ARGUMENT, () -> { desk.show(0, 4, moment); return 0; });
        }
        Check.due("offset at the first", desk.offset(0, FIRST), 0);
        Check.due("offset at the last", desk.offset(0, LAST), 0);
        for (int zone : WRONG_ZONES) {
            Check.dueThrow("offset of " + zone, ARGUMENT, () -> desk.offset(zone, 0));
            Check.dueThrow("moment in " + zone, ARGUMENT, () -> desk.moment(0, zone, true));
            Check.dueThrow("show in " + zone, ARGUMENT, () -> { desk.show(0, zone, 0); return 0; });
        }
        Check.due("the slot stays", Desk.text(desk, 0), "1970-01-01T01:02:03.000000004");
    }

    private static void anyZones() {
        Random random = new Random(14);
        for (int i = 0; i < 60; i++) {
            WrittenZone zone = anyZone(random);
            List<Long> starts = zone.plain().starts();
            starts.add(FIRST);
            starts.add(LAST);
            for (int j = 0; j < 40; j++) {
                // Mostly near the first moments, where the changes lie close together.
                int most = random.nextInt(3) > 0 ? Math.min(starts.size(), 12) : starts.size();
                long near = starts.get(random.nextInt(most));
                compare(zone, near + random.nextInt(3) - 1);
                compare(zone, near + random.nextInt(140000) - 70000);
                compare(zone, random.nextBoolean() ? near + random.nextInt(100) - 50
                        : utc("-9999-01-01T00:00") + random.nextInt(100000));
            }
        }
    }

    private static WrittenZone anyZone(Random random) {
        WrittenZone zone = new WrittenZone(anyOffset(random));
        long moment = random.nextBoolean() ? FIRST : Math.floorMod(random.nextLong(), LAST - FIRST - 9999999) + FIRST;
        int step = random.nextBoolean() ? 20 : 100000;
        for (int changes = random.nextInt(9); changes > 0; changes--) {
            zone.change(moment, anyOffset(random));
            moment += 1 + random.nextInt(step);
        }
        int month = 1 + random.nextInt(12);
        int day = random.nextInt(3) == 0 ? -1 : 1 + random.nextInt(28);
        for (int rules = random.nextInt(3); rules > 0; rules--) {
            int week = 1 + random.nextInt(7);
            int second = random.nextBoolean() ? 0 : random.nextInt(86401);
            zone.rule(month, day, week, second, anyOffset(random));
            if (random.nextBoolean()) {
                month = random.nextBoolean() ? 12 : 1 + random.nextInt(12);
                day = random.nextBoolean() ? 28 : 1 + random.nextInt(28);
            }
        }
        return zone;
    }

    /** Rules of December and January that often have a moment in common, in all years. */
    private static void anyRulesAroundNewYear() {
        Random random = new Random(5);
        for (int i = 0; i < 60; i++) {
            WrittenZone zone = new WrittenZone(anyOffset(random));
            int week = 1 + random.nextInt(7);
            boolean isAtMidnight = random.nextBoolean();
            boolean isDecember = random.nextBoolean();
            for (int rule = 0; rule < 2; rule++) {
                int offset = anyOffset(random);
                int month = isDecember ? 12 : 1;
                int day = !isDecember ? 1 + random.nextInt(2) : isAtMidnight ? -1 : 27 + random.nextInt(2);
                int weekday = isDecember && isAtMidnight ? (week + 5) % 7 + 1 : week;
                int second = isDecember && isAtMidnight ? 86400 : 0;
                zone.rule(month, day, weekday, second, offset);
                isDecember = !isDecember;
            }
            for (int j = 0; j < 40; j++) {
                long newYear = utc(String.format("%05d-01-01T00:00", random.nextInt(19999) - 9999)
                        .replaceFirst("^0", ""));
                compare(zone, newYear + (random.nextInt(12) - 5) * 86400L + random.nextInt(3) - 1);
                compare(zone, newYear + random.nextInt(1000000) - 500000);
                compare(zone, newYear + random.nextInt(366) * 86400L);
            }
        }
    }

    private static int anyOffset(Random random) {
        int[] edges = {-64800, 64800, 0, 3600, 7200, 1, -1};
        return random.nextBoolean() ? edges[random.nextInt(edges.length)] : random.nextInt(129601) - 64800;
    }

    private static void compare(WrittenZone zone, long second) {
        TimeDesk desk = zone.desk();
        PlainZone plain = zone.plain();
        if (second >= FIRST && second <= LAST) {
            Check.due("offset at " + second, desk.offset(0, second), plain.offset(second));
            desk.show(0, 0, second);
            Check.due("show " + second, Desk.take(desk, 0),
                    LocalDateTime.ofEpochSecond(second + plain.offset(second), 0, ZoneOffset.UTC));
        }
        LocalDateTime local = LocalDateTime.ofEpochSecond(second, 0, ZoneOffset.UTC);
        if (!local.isBefore(Desk.FIRST) && !local.isAfter(Desk.LAST)) {
            Desk.put(desk, 1, local.plusNanos(second & 1));
            Check.due("moment of " + local, desk.moment(1, 0, false), plain.moment(second, false));
            Check.due("later moment of " + local, desk.moment(1, 0, true), plain.moment(second, true));
        }
    }
}

import java.time.LocalDateTime;
import java.time.ZoneOffset;

/** The boundary cases of ZONES and SETTLING, and of promises 11 to 16, sentence by sentence. */
public final class ZoneEdgesTest {
    private static final int[] NO_ZONES = {-1, 4, Integer.MIN_VALUE, Integer.MAX_VALUE};
    private static final int[] NO_OFFSETS = {-64801, 64801, Integer.MIN_VALUE, Integer.MAX_VALUE};
    private static final long[] NO_MOMENTS = {Edge.FIRST_MOMENT - 1, Edge.LAST_MOMENT + 1, Long.MIN_VALUE,
        Long.MAX_VALUE};
    private static final long FIRST = utc(Edge.FIRST);
    private static final long LAST = utc("9999-12-31T23:59:59");

    public static void main(String[] args) {
        zonesTaken();
        zonesRefused();
        zoneAnew();
        changesTaken();
        changesRefused();
        eightChanges();
        changesOfAZoneWithARule();
        rulesTaken();
        rulesRefused();
        twoRules();
        offsetsAtChanges();
        rulesDays();
        rulesSeconds();
        rulesOfFirstAndLastYear();
        rulesBehindTheLastChange();
        rulesAtOneMoment();
        noOffset();
        momentsOne();
        momentsSeveral();
        momentsNone();
        gapsOfEightChanges();
        gapsOverNewYear();
        momentsAtTheEndsOfTheYears();
        momentsNoZone();
        shows();
        showsNothing();
        Check.end();
    }

    private static long utc(String when) {
        return LocalDateTime.parse(when).toEpochSecond(ZoneOffset.UTC);
    }

    /** "ZONES 0 .. 3", "seconds, -64800 .. 64800". */
    private static void zonesTaken() {
        for (int zone = 0; zone < 4; zone++) {
            for (int offset : new int[] {-64800, -64799, -1, 0, 1, 64799, 64800}) {
                TimeDesk desk = Edge.used();
                Check.due("zone(" + zone + ", " + offset + ")", desk.zone(zone, offset), true);
                for (long moment : new long[] {Edge.FIRST_MOMENT, 0, Edge.LAST_MOMENT}) {
                    Check.due("offset of zone " + zone, desk.offset(zone, moment), offset);
                }
            }
        }
    }

    /** "false (refused) if zone is not 0 .. 3 or the offset not so". */
    private static void zonesRefused() {
        for (int zone : NO_ZONES) {
            Edge.refuses("zone " + zone, desk -> desk.zone(zone, 0));
            Edge.refuses("zone " + zone + ", offset too", desk -> desk.zone(zone, 64801));
        }
        for (int offset : NO_OFFSETS) {
            for (int zone = 0; zone < 4; zone++) {
                int there = zone;
                Edge.refuses("zone(" + zone + ", " + offset + ")", desk -> desk.zone(there, offset));
            }
        }
    }

    /** "A zone gets its first offset, without changes and rules". */
    private static void zoneAnew() {
        for (int zone = 0; zone < 4; zone++) {
            TimeDesk desk = Edge.used();
            desk.zone(zone, 9);
            for (long moment : new long[] {Edge.FIRST_MOMENT, 1000, 1007, 1720000000L, Edge.LAST_MOMENT}) {
                Check.due("zone anew", desk.offset(zone, moment), 9);
            }
            Check.due("changes that it takes", Edge.changesTaken(desk, zone), 8);
            Check.due("rules that it takes", Edge.rulesTaken(desk, zone), 2);
        }
        TimeDesk desk = Edge.used();
        desk.zone(1, 9);
        Check.due("another zone stays", desk.offset(2, 1003), -3);
        Check.due("and its rule", desk.offset(2, 1720000000L), 4);
    }

    /** "within -377700000000 .. 253400000000", "behind the last one", "the offset is not so". */
    private static void changesTaken() {
        for (int zone = 0; zone < 4; zone++) {
            TimeDesk desk = new TimeDesk();
            Check.due("change at the first moment", desk.change(zone, Edge.FIRST_MOMENT, -64800), true);
            Check.due("a second behind it", desk.change(zone, Edge.FIRST_MOMENT + 1, 64800), true);
            Check.due("a second before the last moment", desk.change(zone, Edge.LAST_MOMENT - 1, 1), true);
            Check.due("at the last moment", desk.change(zone, Edge.LAST_MOMENT, 2), true);
            Check.due("offset", desk.offset(zone, Edge.FIRST_MOMENT), -64800);
            Check.due("offset", desk.offset(zone, Edge.FIRST_MOMENT + 1), 64800);
            Check.due("offset", desk.offset(zone, Edge.LAST_MOMENT - 2), 64800);
            Check.due("offset", desk.offset(zone, Edge.LAST_MOMENT - 1), 1);
            Check.due("offset", desk.offset(zone, Edge.LAST_MOMENT), 2);
        }
        Edge.takes("a change at the last moment alone", desk -> desk.change(3, Edge.LAST_MOMENT, 0));
        // The last change of zone 1 is at 1001.
        Edge.takes("a change just behind the last", desk -> desk.change(1, 1002, 0));
        Edge.takes("a change to the same offset", desk -> desk.change(1, 1002, 3));
    }

    private static void changesRefused() {
        for (int zone : NO_ZONES) {
            Edge.refuses("change of zone " + zone, desk -> desk.change(zone, 2000, 0));
            Edge.refuses("change of zone " + zone + ", all wrong", desk -> desk.change(zone, Long.MAX_VALUE, 64801));
        }
        for (int offset : NO_OFFSETS) {
            Edge.refuses("change to " + offset, desk -> desk.change(1, 2000, offset));
            Edge.refuses("first change to " + offset, desk -> desk.change(3, 2000, offset));
        }
        for (long moment : NO_MOMENTS) {
            Edge.refuses("change at " + moment, desk -> desk.change(1, moment, 0));
            Edge.refuses("first change at " + moment, desk -> desk.change(3, moment, 0));
        }
        for (long moment : new long[] {1001, 1000, 999, 0, -1, Edge.FIRST_MOMENT}) {
            Edge.refuses("change at " + moment + ", not behind 1001", desk -> desk.change(1, moment, 0));
        }
        Edge.refuses("a change at the first moment again", desk -> desk.change(3, Edge.FIRST_MOMENT, 5),
                desk -> desk.change(3, Edge.FIRST_MOMENT, 6));
        Edge.refuses("a change at the last moment again", desk -> desk.change(3, Edge.LAST_MOMENT, 5),
                desk -> desk.change(3, Edge.LAST_MOMENT, 6));
    }

    /** "at most 8 CHANGES", "it has eight". */
    private static void eightChanges() {
        Edge.Call seven = desk -> {
            for (int i = 0; i < 7; i++) {
                desk.change(3, 2000 + i, i);
            }
        };
        Edge.Call eight = desk -> {
            seven.on(desk);
            Check.due("the eighth change", desk.change(3, 2007, 7), true);
        };
        TimeDesk desk = Edge.used();
        eight.on(desk);
        for (int i = 0; i < 8; i++) {
            Check.due("offset at change " + i, desk.offset(3, 2000 + i), i);
        }
        Check.due("before them", desk.offset(3, 1999), -64800);
        Check.due("behind them", desk.offset(3, Edge.LAST_MOMENT), 7);
        Edge.refuses("the ninth change", eight, full -> full.change(3, 2008, 8));
        Edge.refuses("the ninth change, far behind", eight, full -> full.change(3, Edge.LAST_MOMENT, 8));
        Edge.takes("a rule behind eight changes", full -> {
            eight.on(full);
            return full.rule(3, 1, 1, 1, 0, 8);
        });
    }

    /** "it has eight or a rule". */
    private static void changesOfAZoneWithARule() {
        Edge.refuses("a change behind two rules", desk -> desk.change(0, 0, 5));
        Edge.refuses("a change behind a rule", desk -> desk.rule(3, 1, 1, 1, 0, 8), desk -> desk.change(3, 0, 5));
        Edge.refuses("a change behind changes and a rule", desk -> desk.rule(1, 1, 1, 1, 0, 8),
                desk -> desk.change(1, 2000, 5));
    }

    /** "a month, a day d (1 .. 28 ..; -1: ..), w (1 .. 7), a second s of that day (0 .. 86400) .. and the offset". */
    private static void rulesTaken() {
        for (int zone = 0; zone < 4; zone++) {
            ruleTaken(zone, 1, 1, 1, 0, 0);
        }
        ruleTaken(3, 12, 1, 1, 0, 0);
        ruleTaken(3, 2, 28, 1, 0, 0);
        ruleTaken(3, 2, -1, 1, 0, 0);
        ruleTaken(3, 1, 1, 7, 0, 0);
        ruleTaken(3, 1, 1, 1, 86400, 0);
        ruleTaken(3, 1, 1, 1, 0, -64800);
        ruleTaken(3, 1, 1, 1, 0, 64800);
        ruleTaken(3, 12, 28, 7, 86400, 64800);
        ruleTaken(3, 12, -1, 7, 86400, -64800);
    }

    private static void ruleTaken(int zone, int month, int day, int week, int second, int offset) {
        TimeDesk desk = new TimeDesk();
        desk.zone(zone, 77);
        Check.due("rule(" + zone + ", " + month + ", " + day + ", " + week + ", " + second + ", " + offset + ")",
                desk.rule(zone, month, day, week, second, offset), true);
        Check.due("its offset", desk.offset(zone, 0), offset);
        Check.due("a second one", desk.rule(zone, month, day, week, second, offset), true);
    }

    /** "false (refused) if there is no such zone, it has two, or a number is not so". */
    private static void rulesRefused() {
        int[][] wrong = {{-1, 4}, {0, 13, -1}, {0, 29, -2, 30, 31}, {0, 8, -1}, {-1, 86401}, {-64801, 64801}};
        for (int place = 0; place < wrong.length; place++) {
            for (int number : wrong[place]) {
                ruleRefused(place, number);
            }
            ruleRefused(place, Integer.MIN_VALUE);
            ruleRefused(place, Integer.MAX_VALUE);
        }
        Edge.refuses("all numbers wrong", desk -> desk.rule(4, 13, 29, 8, 86401, 64801));
    }

    private static void ruleRefused(int place, int number) {
        int[] all = {3, 1, 1, 1, 0, 0};
        all[place] = number;
        String told = "rule with " + number + " at place " + place;
        Edge.refuses(told, desk -> desk.rule(all[0], all[1], all[2], all[3], all[4], all[5]));
        if (place > 0) {
            all[0] = 2;
            Edge.refuses(told + " as the second", desk -> desk.rule(2, all[1], all[2], all[3], all[4], all[5]));
        }
    }

    /** "at most 2 YEARLY RULES", "it has two". */
    private static void twoRules() {
        Edge.refuses("a third rule", desk -> desk.rule(0, 1, 1, 1, 0, 5));
        Edge.refuses("a third rule, wrong too", desk -> desk.rule(0, 13, 1, 1, 0, 5));
        Edge.takes("a second rule", desk -> desk.rule(2, 1, 1, 1, 0, 5));
        Edge.refuses("a third rule behind eight changes", desk -> desk.rule(2, 1, 1, 1, 0, 5),
                desk -> desk.rule(2, 1, 1, 1, 0, 5));
    }

    /** "that of the last CHANGE .. that is not behind it, else the first one". */
    private static void offsetsAtChanges() {
        TimeDesk desk = Edge.used();
        long[] moments = {Edge.FIRST_MOMENT, -2, -1, 0, 999, 1000, 1001, 1002, Edge.LAST_MOMENT};
        int[] want = {-3600, -3600, 1, 1, 1, 2, 3, 3, 3};
        for (int i = 0; i < moments.length; i++) {
            Check.due("offset at " + moments[i], desk.offset(1, moments[i]), want[i]);
        }
        for (int i = 0; i < 8; i++) {
            Check.due("offset at change " + i + " of eight", desk.offset(2, 1000 + i), -i);
        }
        Check.due("offset before eight", desk.offset(2, 999), 77);
    }

    /** A rule's moment is this second: until the one before another offset holds. */
    private static void starts(int month, int day, int week, int second, String... moments) {
        TimeDesk desk = new TimeDesk();
        // The other rule lies half a year away, so that each moment can be seen.
        desk.rule(0, (month + 5) % 12 + 1, 1, 1, 0, 1);
        desk.rule(0, month, day, week, second, 2);
        for (String moment : moments) {
            String told = "rule(" + month + ", " + day + ", " + week + ", " + second + ") at " + moment;
            Check.due(told + " less 1", desk.offset(0, utc(moment) - 1), 1);
            Check.due(told, desk.offset(0, utc(moment)), 2);
        }
    }

    /** "the first DAY OF WEEK w that is not before day d; -1: the last such one of the month". */
    private static void rulesDays() {
        starts(1, 1, 1, 0, "2024-01-01T00:00", "2023-01-02T00:00", "2025-01-06T00:00", "2019-01-07T00:00");
        starts(1, 1, 7, 0, "2024-01-07T00:00", "2023-01-01T00:00");
        starts(1, 2, 1, 0, "2024-01-08T00:00", "2023-01-02T00:00");
        starts(3, 8, 7, 7200, "2024-03-10T02:00", "2020-03-08T02:00", "2021-03-14T02:00");
        // From the 28th on it may be a day of the next month or year.
        starts(2, 28, 3, 0, "2024-02-28T00:00", "2023-03-01T00:00");
        starts(2, 28, 4, 0, "2024-02-29T00:00", "2023-03-02T00:00");
        starts(2, 28, 2, 0, "2024-03-05T00:00", "2023-02-28T00:00");
        starts(12, 28, 4, 0, "2023-12-28T00:00", "2021-12-30T00:00", "2022-12-29T00:00");
        starts(12, 28, 7, 0, "2023-12-31T00:00");
        starts(12, 28, 1, 0, "2024-01-01T00:00");
        starts(12, 28, 3, 0, "2024-01-03T00:00", "2022-12-28T00:00");
        TimeDesk alone = new TimeDesk();
        alone.zone(0, 5);
        alone.rule(0, 12, 28, 3, 0, 6);
        Check.due("the rule's moment before last", alone.offset(0, utc("2024-01-02T23:59:59")), 6);
        // The last one of a month of 28, 29, 30 and 31 days, also when it is its last day.
        starts(2, -1, 2, 0, "2023-02-28T00:00", "2024-02-27T00:00");
        starts(2, -1, 3, 0, "2023-02-22T00:00", "2024-02-28T00:00");
        starts(2, -1, 4, 0, "2024-02-29T00:00", "2023-02-23T00:00", "1900-02-22T00:00");
        starts(4, -1, 2, 0, "2024-04-30T00:00", "2023-04-25T00:00");
        starts(4, -1, 3, 0, "2024-04-24T00:00");
        starts(12, -1, 7, 0, "2023-12-31T00:00", "2022-12-25T00:00");
        starts(12, -1, 1, 0, "2023-12-25T00:00");
    }

    /** "a second s of that day (0 .. 86400) in UTC". */
    private static void rulesSeconds() {
        starts(1, 1, 1, 86399, "2024-01-01T23:59:59");
        starts(1, 1, 1, 86400, "2024-01-02T00:00");
        starts(2, -1, 4, 86400, "2024-03-01T00:00");
        starts(12, -1, 7, 86400, "2024-01-01T00:00");
        starts(12, 28, 3, 86400, "2024-01-04T00:00");
    }

    /** "A rule has a moment in each of the years -9999 .. 9999", and in no other one. */
    private static void rulesOfFirstAndLastYear() {
        TimeDesk desk = new TimeDesk();
        // The first moment is -9999-03-01T05:20, a Thursday; the last one 9999-12-05T08:53:20, a Sunday.
        desk.zone(0, 5);
        desk.rule(0, 1, 1, 1, 0, 6);
        Check.due("of January -9999", desk.offset(0, Edge.FIRST_MOMENT), 6);
        desk.zone(0, 5);
        desk.rule(0, 3, 1, 4, 19200, 6);
        Check.due("just at the first moment", desk.offset(0, Edge.FIRST_MOMENT), 6);
        desk.zone(0, 5);
        desk.rule(0, 3, 1, 4, 19201, 6);
        Check.due("a second behind the first moment", desk.offset(0, Edge.FIRST_MOMENT), 5);
        Check.due("there", desk.offset(0, Edge.FIRST_MOMENT + 1), 6);
        desk.zone(0, 5);
        desk.rule(0, 12, 28, 1, 0, 6);
        // That of the year -10000 would be the first day of -9999.
        Check.due("none of the year -10000", desk.offset(0, Edge.FIRST_MOMENT), 5);
        Check.due("before that of December -9999", desk.offset(0, utc("-9999-12-30T23:59:59")), 5);
        Check.due("that of December -9999", desk.offset(0, utc("-9999-12-31T00:00")), 6);
        desk.zone(1, 5);
        desk.rule(1, 6, 1, 1, 0, 7);
        desk.rule(1, 12, 5, 7, 32000, 6);
        Check.due("just at the last moment", desk.offset(1, Edge.LAST_MOMENT), 6);
        Check.due("a second before it", desk.offset(1, Edge.LAST_MOMENT - 1), 7);
        desk.zone(1, 5);
        desk.rule(1, 6, 1, 1, 0, 7);
        desk.rule(1, 12, 5, 7, 32001, 6);
        Check.due("a second behind the last moment", desk.offset(1, Edge.LAST_MOMENT), 7);
    }

    /** "those count that lie behind the last CHANGE (all, without changes)". */
    private static void rulesBehindTheLastChange() {
        long monday = utc("2024-01-01T00:00");
        long next = utc("2025-01-06T00:00");
        for (long change : new long[] {monday - 1, monday, monday + 1}) {
            TimeDesk desk = new TimeDesk();
            desk.zone(0, 5);
            desk.change(0, change, 6);
            desk.rule(0, 1, 1, 1, 0, 7);
            Check.due("before the change", desk.offset(0, change - 1), 5);
            Check.due("at the change", desk.offset(0, change), 6);
            Check.due("rule with the change at " + change, desk.offset(0, monday + 1), change < monday ? 7 : 6);
            Check.due("rule at its moment", desk.offset(0, monday), change < monday ? 7 : change == monday ? 6 : 5);
            Check.due("until the next year", desk.offset(0, next - 1), change < monday ? 7 : 6);
            Check.due("in the next year", desk.offset(0, next), 7);
            Check.due("none long before the change", desk.offset(0, utc("2020-06-01T00:00")), 5);
        }
        TimeDesk all = new TimeDesk();
        all.zone(0, 5);
        all.rule(0, 1, 1, 1, 0, 7);
        Check.due("all, without changes", all.offset(0, Edge.FIRST_MOMENT), 7);
        all.zone(0, 5);
        all.change(0, Edge.LAST_MOMENT, 6);
        all.rule(0, 1, 1, 1, 0, 7);
        all.rule(0, 12, 28, 2, 0, 8);
        Check.due("before a change at the last moment", all.offset(0, Edge.LAST_MOMENT - 1), 5);
        Check.due("at it", all.offset(0, Edge.LAST_MOMENT), 6);
        settles(all, 0, "9999-12-28T00:00:07", utc("9999-12-28T00:00:07") - 6, utc("9999-12-28T00:00:07") - 6);
        settles(all, 0, "9999-12-28T00:00:08", utc("9999-12-28T00:00"), utc("9999-12-28T00:00"));
    }

    /** "of two at the same moment the one of the rule that was added later". */
    private static void rulesAtOneMoment() {
        int[][][] pairs = {
            {{1, 1, 1, 0}, {1, 1, 1, 0}},
            {{1, 1, 1, 86400}, {1, 2, 2, 0}},
            {{12, 28, 1, 0}, {1, 1, 1, 0}},
            {{12, -1, 7, 86400}, {1, 1, 1, 0}},
        };
        // Of each pair both have a moment on the first or second of January 2024, a Monday and a Tuesday.
        long[] moments = {utc("2024-01-01T00:00"), utc("2024-01-02T00:00"), utc("2024-01-01T00:00"),
            utc("2024-01-01T00:00")};
        for (int i = 0; i < pairs.length; i++) {
            for (int first = 0; first < 2; first++) {
                int[] one = pairs[i][first];
                int[] other = pairs[i][1 - first];
                TimeDesk desk = new TimeDesk();
                desk.rule(0, one[0], one[1], one[2], one[3], 1);
                desk.rule(0, other[0], other[1], other[2], other[3], 2);
                Check.due("pair " + i + ", " + first + " first", desk.offset(0, moments[i]), 2);
                Check.due("pair " + i + ", half a year later", desk.offset(0, utc("2024-06-01T00:00")), 2);
            }
        }
        TimeDesk apart = new TimeDesk();
        apart.rule(0, 1, 1, 1, 1, 1);
        apart.rule(0, 1, 1, 1, 0, 2);
        Check.due("a second apart: the first", apart.offset(0, moments[0]), 2);
        Check.due("a second apart: the later moment", apart.offset(0, moments[0] + 1), 1);
    }

    /** "IllegalArgumentException: there is no such zone, or the moment lies beyond". */
    private static void noOffset() {
        for (int zone : NO_ZONES) {
            Edge.throwsOn("offset of " + zone, Edge.ARGUMENT, desk -> desk.offset(zone, 0));
            Edge.throwsOn("offset of " + zone + " beyond", Edge.ARGUMENT, desk -> desk.offset(zone, Long.MAX_VALUE));
        }
        for (long moment : NO_MOMENTS) {
            for (int zone = 0; zone < 4; zone++) {
                int there = zone;
                Edge.throwsOn("offset at " + moment, Edge.ARGUMENT, desk -> desk.offset(there, moment));
            }
        }
        for (int zone = 0; zone < 4; zone++) {
            TimeDesk desk = new TimeDesk();
            desk.zone(zone, zone);
            Check.due("offset at the first moment", desk.offset(zone, Edge.FIRST_MOMENT), zone);
            Check.due("offset at the last moment", desk.offset(zone, Edge.LAST_MOMENT), zone);
        }
    }

    private static void settles(TimeDesk desk, int zone, String when, long first, long last) {
        Desk.put(desk, 0, when);
        Check.due("moment of " + when, desk.moment(0, zone, false), first);
        Check.due("later moment of " + when, desk.moment(0, zone, true), last);
        Check.due("moment leaves", Desk.take(desk, 0), LocalDateTime.parse(when));
    }

    /** "if there is one, it"; "in seconds, with the nanoseconds kept". */
    private static void momentsOne() {
        TimeDesk desk = Edge.used();
        settles(desk, 3, "1970-01-01T00:00", 64800, 64800);
        settles(desk, 3, "1969-12-31T05:59:59.999999999", -1, -1);
        settles(desk, 3, "1969-12-31T06:00", 0, 0);
        settles(desk, 3, "1969-12-31T06:00:00.999999999", 0, 0);
        settles(desk, 0, "2024-03-31T01:59:59.999999999", utc("2024-03-31T00:59:59"), utc("2024-03-31T00:59:59"));
        settles(desk, 0, "2024-03-31T03:00", utc("2024-03-31T01:00"), utc("2024-03-31T01:00"));
        settles(desk, 0, "2024-10-27T01:59:59.999999999", utc("2024-10-26T23:59:59"), utc("2024-10-26T23:59:59"));
        settles(desk, 0, "2024-10-27T03:00", utc("2024-10-27T02:00"), utc("2024-10-27T02:00"));
        for (int zone = 0; zone < 4; zone++) {
            TimeDesk fresh = new TimeDesk();
            settles(fresh, zone, "1970-01-01T00:00:01", 1, 1);
        }
    }

    /** "of several the first or, if that is asked for, the last". */
    private static void momentsSeveral() {
        TimeDesk desk = Edge.used();
        settles(desk, 0, "2024-10-27T02:00", utc("2024-10-27T00:00"), utc("2024-10-27T01:00"));
        settles(desk, 0, "2024-10-27T02:59:59.999999999", utc("2024-10-27T00:59:59"), utc("2024-10-27T01:59:59"));
        // Zone 2 shows the second 1000 at 923 and then, going back by a second each time, at 1000 to 1007.
        settles(desk, 2, "1970-01-01T00:16:39", 922, 922);
        settles(desk, 2, "1970-01-01T00:16:40", 923, 1007);
        settles(desk, 2, "1970-01-01T00:16:41", 924, 1008);
        settles(desk, 2, "1970-01-01T00:17:56", 999, 1083);
        settles(desk, 2, "1970-01-01T00:17:57", 1084, 1084);
        // Of rules behind changes, too.
        TimeDesk behind = new TimeDesk();
        behind.change(0, 0, 60);
        behind.change(0, 1, 3600);
        behind.rule(0, 3, -1, 7, 3600, 7200);
        behind.rule(0, 10, -1, 7, 3600, 3600);
        settles(behind, 0, "2024-10-27T02:30", utc("2024-10-27T00:30"), utc("2024-10-27T01:30"));
        TimeDesk back = new TimeDesk();
        back.zone(0, 64800);
        back.change(0, 0, -64800);
        settles(back, 0, "1969-12-31T05:59:59", -129601, -129601);
        settles(back, 0, "1969-12-31T06:00", -129600, 0);
        settles(back, 0, "1970-01-01T17:59:59", -1, 129599);
        settles(back, 0, "1970-01-01T18:00", 129600, 129600);
    }

    /** "if there is none (a GAP): date and time less the offset before the gap". */
    private static void momentsNone() {
        TimeDesk desk = Edge.used();
        settles(desk, 0, "2024-03-31T02:00", utc("2024-03-31T01:00"), utc("2024-03-31T01:00"));
        settles(desk, 0, "2024-03-31T02:59:59.999999999", utc("2024-03-31T01:59:59"), utc("2024-03-31T01:59:59"));
        TimeDesk ahead = new TimeDesk();
        ahead.zone(0, -64800);
        ahead.change(0, 0, 64800);
        settles(ahead, 0, "1969-12-31T05:59:59", -1, -1);
        settles(ahead, 0, "1969-12-31T06:00", 0, 0);
        settles(ahead, 0, "1970-01-01T17:59:59", 129599, 129599);
        settles(ahead, 0, "1970-01-01T18:00", 0, 0);
        // Two gaps that meet: between them one second is shown.
        ahead.zone(1, 0);
        ahead.change(1, 100, 10);
        ahead.change(1, 101, 20);
        settles(ahead, 1, "1970-01-01T00:01:39", 99, 99);
        settles(ahead, 1, "1970-01-01T00:01:40", 100, 100);
        settles(ahead, 1, "1970-01-01T00:01:49", 109, 109);
        settles(ahead, 1, "1970-01-01T00:01:50", 100, 100);
        settles(ahead, 1, "1970-01-01T00:01:51", 101, 101);
        settles(ahead, 1, "1970-01-01T00:02", 110, 110);
        settles(ahead, 1, "1970-01-01T00:02:01", 101, 101);
        // A gap whose end is shown by a later change, so that it is none there.
        ahead.zone(2, 0);
        ahead.change(2, 100, 10);
        ahead.change(2, 105, 0);
        settles(ahead, 2, "1970-01-01T00:01:44", 104, 104);
        settles(ahead, 2, "1970-01-01T00:01:45", 105, 105);
        settles(ahead, 2, "1970-01-01T00:01:50", 100, 110);
        // The first moment that shows something later counts, not the last gap before the time.
        ahead.zone(3, 0);
        ahead.change(3, 100, 50);
        ahead.change(3, 110, -50);
        ahead.change(3, 120, 64800);
        settles(ahead, 3, "1970-01-01T00:01:45", 105, 105);
        settles(ahead, 3, "1970-01-01T00:02:10", 130, 130);
        settles(ahead, 3, "1970-01-01T00:02:39", 109, 109);
        settles(ahead, 3, "1970-01-01T00:02:40", 210, 210);
    }

    /** A gap at each of eight changes, and none of them in a zone that begins anew. */
    private static void gapsOfEightChanges() {
        TimeDesk desk = new TimeDesk();
        for (int i = 1; i <= 8; i++) {
            desk.change(0, 100 * i, 10 * i);
        }
        for (int i = 1; i <= 8; i++) {
            long shown = 100 * i + 10 * i;
            settles(desk, 0, second(shown - 11), 100 * i - 1, 100 * i - 1);
            settles(desk, 0, second(shown - 10), 100 * i, 100 * i);
            settles(desk, 0, second(shown - 1), 100 * i + 9, 100 * i + 9);
            settles(desk, 0, second(shown), 100 * i, 100 * i);
        }
        desk.zone(0, 0);
        desk.change(0, 400, 10);
        settles(desk, 0, second(405), 405, 405);
        settles(desk, 0, second(410), 400, 400);
        settles(desk, 0, second(880), 870, 870);
        desk.zone(0, 0);
        settles(desk, 0, second(405), 405, 405);
        // The old third change, at 100, is not the end of a gap of the new zone, which has two.
        desk.change(1, 1, 1);
        desk.change(1, 2, 2);
        desk.change(1, 100, 600);
        desk.zone(1, 5);
        desk.change(1, 200, 20);
        desk.change(1, 300, 40);
        settles(desk, 1, second(330), 310, 310);
    }

    private static String second(long second) {
        return LocalDateTime.ofEpochSecond(second, 0, ZoneOffset.UTC).toString();
    }

    /** Gaps that begin in another year than the date and time. */
    private static void gapsOverNewYear() {
        long monday = utc("2024-01-01T00:00");
        TimeDesk desk = new TimeDesk();
        desk.rule(0, 6, 1, 1, 0, -3600);
        desk.rule(0, 1, 1, 1, 0, 3600);
        settles(desk, 0, "2023-12-31T22:59:59", monday - 1, monday - 1);
        settles(desk, 0, "2023-12-31T23:00", monday, monday);
        settles(desk, 0, "2024-01-01T00:59:59", monday + 7199, monday + 7199);
        settles(desk, 0, "2024-01-01T01:00", monday, monday);
        desk.rule(1, 6, 1, 1, 0, 0);
        desk.rule(1, 12, -1, 7, 86399, 3600);
        settles(desk, 1, "2023-12-31T23:59:58", monday - 2, monday - 2);
        settles(desk, 1, "2023-12-31T23:59:59", monday - 1, monday - 1);
        settles(desk, 1, "2024-01-01T00:59:58", monday + 3598, monday + 3598);
        settles(desk, 1, "2024-01-01T00:59:59", monday - 1, monday - 1);
        // December's Wednesday from the 28th on is 2024-01-03.
        desk.rule(2, 6, 1, 1, 0, 0);
        desk.rule(2, 12, 28, 3, 0, 3600);
        settles(desk, 2, "2024-01-03T00:00", monday + 172800, monday + 172800);
        settles(desk, 2, "2024-01-03T00:59:59", monday + 176399, monday + 176399);
        settles(desk, 2, "2024-01-03T01:00", monday + 172800, monday + 172800);
    }

    /** Dates at the edge of the years have moments, also beyond those that offset and show take. */
    private static void momentsAtTheEndsOfTheYears() {
        TimeDesk desk = new TimeDesk();
        desk.zone(1, 64800);
        desk.zone(2, -64800);
        int[] offsets = {0, 64800, -64800};
        for (int zone = 0; zone < 3; zone++) {
            settles(desk, zone, Edge.FIRST, FIRST - offsets[zone], FIRST - offsets[zone]);
            settles(desk, zone, Edge.LAST, LAST - offsets[zone], LAST - offsets[zone]);
        }
        // The first day of the years is a Monday, the day behind the last one a Saturday.
        desk.zone(3, 3600);
        desk.rule(3, 1, 1, 1, 0, 7200);
        settles(desk, 3, Edge.FIRST, FIRST - 3600, FIRST - 3600);
        settles(desk, 3, "-9999-01-01T00:59:59", FIRST - 1, FIRST - 1);
        settles(desk, 3, "-9999-01-01T01:00", FIRST, FIRST);
        settles(desk, 3, "-9999-01-01T01:59:59", FIRST + 3599, FIRST + 3599);
        settles(desk, 3, "-9999-01-01T02:00", FIRST, FIRST);
        desk.zone(3, 0);
        desk.rule(3, 6, 1, 1, 0, -3600);
        desk.rule(3, 12, 28, 6, 0, 0);
        settles(desk, 3, "9999-12-31T22:59:59", LAST, LAST);
        settles(desk, 3, "9999-12-31T23:00", LAST + 1, LAST + 1);
        settles(desk, 3, Edge.LAST, LAST + 3600, LAST + 3600);
        desk.zone(3, 0);
        desk.rule(3, 6, 1, 1, 0, -3600);
        desk.rule(3, 12, 28, 6, 0, -7200);
        settles(desk, 3, "9999-12-31T21:59:59", LAST - 3600, LAST - 3600);
        settles(desk, 3, "9999-12-31T22:00", LAST + 1 - 3600, LAST + 1);
        settles(desk, 3, "9999-12-31T22:59:59", LAST, LAST + 3600);
        settles(desk, 3, Edge.LAST, LAST + 7200, LAST + 7200);
        // No rule has a moment in the year 10000 that is not one of December 9999.
        desk.zone(3, 0);
        desk.rule(3, 6, 1, 1, 0, -3600);
        desk.rule(3, 1, 1, 6, 0, 0);
        settles(desk, 3, Edge.LAST, LAST + 3600, LAST + 3600);
    }

    /** "IllegalArgumentException: there is no such zone." */
    private static void momentsNoZone() {
        for (int zone : NO_ZONES) {
            for (boolean later : new boolean[] {false, true}) {
                Edge.throwsOn("moment in " + zone, Edge.ARGUMENT, desk -> desk.moment(0, zone, later));
            }
        }
    }

    private static void shows(int zone, long moment, String want) {
        Edge.leads(Edge.LAST, "show(0, " + zone + ", " + moment + ")", desk -> desk.show(0, zone, moment), want);
    }

    /** "A slot becomes what a zone shows at a moment (the nanoseconds of second 0)." */
    private static void shows() {
        shows(3, Edge.FIRST_MOMENT, "-9999-02-28T11:20");
        shows(3, Edge.LAST_MOMENT, "9999-12-04T14:53:20");
        shows(3, 64799, "1969-12-31T23:59:59");
        shows(3, 64800, "1970-01-01T00:00");
        shows(0, utc("2024-03-31T00:59:59"), "2024-03-31T01:59:59");
        shows(0, utc("2024-03-31T01:00"), "2024-03-31T03:00");
        shows(0, utc("2024-10-27T00:59:59"), "2024-10-27T02:59:59");
        shows(0, utc("2024-10-27T01:00"), "2024-10-27T02:00");
        shows(1, -2, "1969-12-31T22:59:58");
        shows(1, -1, "1970-01-01T00:00");
        shows(1, 0, "1970-01-01T00:00:01");
        TimeDesk desk = new TimeDesk();
        desk.zone(2, 64800);
        desk.show(0, 2, Edge.FIRST_MOMENT);
        desk.show(7, 2, Edge.LAST_MOMENT);
        Check.due("the first moment", Desk.text(desk, 0), "-9999-03-01T23:20");
        Check.due("the last moment", Desk.text(desk, 7), "9999-12-06T02:53:20");
    }

    /** "there is no such zone; else ArithmeticException: it is no date, or the moment lies beyond as above". */
    private static void showsNothing() {
        for (long moment : NO_MOMENTS) {
            for (int zone = 0; zone < 4; zone++) {
                int there = zone;
                Edge.throwsOn("show " + moment, Edge.ARITHMETIC, desk -> desk.show(0, there, moment));
            }
            for (int zone : NO_ZONES) {
                Edge.throwsOn("show " + moment + " in " + zone, Edge.ARGUMENT, desk -> desk.show(0, zone, moment));
            }
        }
        for (int zone : NO_ZONES) {
            Edge.throwsOn("show in " + zone, Edge.ARGUMENT, desk -> desk.show(0, zone, 0));
        }
        // Moments whose dates are there, but which lie beyond.
        Edge.throwsOn("show the first date", Edge.ARITHMETIC, desk -> desk.show(0, 1, FIRST + 64800));
        Edge.throwsOn("show the last date", Edge.ARITHMETIC, desk -> desk.show(0, 1, LAST - 64800));
    }
}

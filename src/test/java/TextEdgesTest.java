import java.time.LocalDateTime;

/** The boundary cases of TEXT and of promises 17 to 20, sentence by sentence. */
public final class TextEdgesTest {
    private static final String FULL = "-9999-12-31T23:59:59.123456789";
    private static final String BEFORE = "1999-09-09T09:09:09.999999999";

    public static void main(String[] args) {
        julianDays();
        characters();
        thirtyCharacters();
        emptyLine();
        fullLine();
        lineWithoutSlot();
        lineBehindNoText();
        shorterLineBehindALonger();
        years();
        monthsAndDays();
        times();
        parts();
        fractions();
        writtenSeconds();
        writtenFractions();
        writtenYears();
        behindTheEnd();
        beforeTheBeginning();
        Check.end();
    }

    private static void julian(String when, double want) {
        TimeDesk desk = Edge.holding(when);
        Check.due("julian day of " + when, desk.julian(0), want);
        Check.due("julian changes nothing", Edge.seen(desk), Edge.seen(Edge.holding(when)));
    }

    /** "(epoch day + 2440587.5) + nanosecond of day / 8.64E13, in doubles": the first and last date and time. */
    private static void julianDays() {
        julian(Edge.FIRST, -1930999.5);
        julian("-9999-01-01T23:59:59.999999999", -1930998.5);
        julian("9999-12-31T00:00", 5373483.5);
        julian(Edge.LAST, 5373484.5);
        julian("1970-01-01T00:00", 2440587.5);
        julian("1969-12-31T12:00", 2440587.0);
        julian("1970-01-01T00:00:00.000000001", 2440587.5);
        julian("-4713-11-24T12:00", 0.0);
        julian("-4713-11-24T00:00", -0.5);
        // Near 0 a double shows the least and the last nanosecond.
        julian("-4713-11-24T12:00:00.000000001", -0.5 + 43200000000001L / 8.64E13);
        julian("-4713-11-24T23:59:59.999999999", -0.5 + 86399999999999L / 8.64E13);
        julian("2024-02-29T13:05:09.123456789", (19782 + 2440587.5) + 47109123456789L / 8.64E13);
    }

    /** "false (refused) if it is not 32 .. 126". */
    private static void characters() {
        for (char c : new char[] {32, 33, '-', '0', '9', 'T', 125, 126}) {
            Edge.takes("type " + (int) c, desk -> desk.type(c));
        }
        for (char c : new char[] {0, 1, 9, 10, 13, 31, 127, 128, 160, 255, 256, 0x130, 0xff10, 0xffff}) {
            Edge.refuses("type " + (int) c, desk -> desk.type(c));
            Edge.refuses("type " + (int) c + " first", desk -> Check.thrown(() -> { desk.parse(0); return 0; }),
                    desk -> desk.type(c));
        }
    }

    /** "or thirty are there". */
    private static void thirtyCharacters() {
        TimeDesk desk = new TimeDesk();
        for (int i = 1; i <= 30; i++) {
            Check.due("character " + i, desk.type(FULL.charAt(i - 1)), true);
        }
        for (char c : new char[] {'0', ' ', 31, 126, 127}) {
            Check.due("type " + (int) c + " into a full line", desk.type(c), false);
        }
        desk.parse(0);
        Check.due("the full line is read as it was", Desk.text(desk, 0), FULL);
        Check.due("room behind it", Edge.room(desk), 30);
        Check.due("a full line again", desk.type('x'), false);
        Edge.refuses("one more than thirty", Edge::room, full -> full.type('x'));
    }

    /** The line is empty: "it is no text of a date". */
    private static void emptyLine() {
        TimeDesk desk = new TimeDesk();
        for (int i = 0; i < 3; i++) {
            Check.dueThrow("parse of nothing", Edge.ARGUMENT, () -> { desk.parse(0); return 0; });
            Check.due("the slot stays", Desk.text(desk, 0), "1970-01-01T00:00");
        }
        Check.due("the line is still empty", Edge.room(desk), 30);
        Edge.throwsOn("parse of nothing", Edge.ARGUMENT, used -> {
            Desk.type(used, "9");
            used.parse(5);
        }, used -> used.parse(0));
    }

    private static void fullLine() {
        TimeDesk desk = new TimeDesk();
        Desk.type(desk, "2023-01-01T10:20:30.1234567890");
        Check.dueThrow("parse of ten digits", Edge.ARGUMENT, () -> { desk.parse(0); return 0; });
        Check.due("the slot stays", Desk.text(desk, 0), "1970-01-01T00:00");
        Check.due("room behind it", Edge.room(desk), 30);
        Check.dueThrow("parse of thirty x", Edge.ARGUMENT, () -> { desk.parse(0); return 0; });
        Check.due("room behind them", Edge.room(desk), 30);
        TimeDesk more = new TimeDesk();
        Desk.type(more, "-2023-01-01T10:20:30.1234567890");
        more.parse(0);
        Check.due("the tenth digit was refused", Desk.text(more, 0), "-2023-01-01T10:20:30.123456789");
    }

    /** "(but not when there is no such slot)". */
    private static void lineWithoutSlot() {
        for (int slot : new int[] {-1, 8, Integer.MIN_VALUE, Integer.MAX_VALUE}) {
            TimeDesk desk = new TimeDesk();
            Check.dueThrow("parse(" + slot + ") of nothing", Edge.INDEX, () -> { desk.parse(slot); return 0; });
            Desk.type(desk, FULL);
            Check.dueThrow("parse(" + slot + ")", Edge.INDEX, () -> { desk.parse(slot); return 0; });
            Check.due("the line is still full", desk.type('0'), false);
            desk.parse(7);
            Check.due("the line stayed", Desk.text(desk, 7), FULL);
            Desk.type(desk, "2023-13-");
            Check.dueThrow("parse(" + slot + ") of no text", Edge.INDEX, () -> { desk.parse(slot); return 0; });
            Check.due("room behind the eight", Edge.room(desk), 22);
        }
    }

    /** "the line is empty then, also when it is no text of a date". */
    private static void lineBehindNoText() {
        for (String line : new String[] {"2", "2023-01-0", "2023-01-01T", "2023-02-29", "2023-01-01T24:00",
            "2023-01-01T10:20:30.", "x2023-01-01", "2023-01-01x"}) {
            TimeDesk desk = new TimeDesk();
            Desk.put(desk, 0, BEFORE);
            Desk.type(desk, line);
            Check.dueThrow("parse of " + line, Edge.ARGUMENT, () -> { desk.parse(0); return 0; });
            Check.due("the slot stays behind " + line, Desk.text(desk, 0), BEFORE);
            Check.dueThrow("parse of nothing", Edge.ARGUMENT, () -> { desk.parse(0); return 0; });
            Desk.type(desk, "2024-02-29");
            desk.parse(0);
            Check.due("read behind " + line, Desk.text(desk, 0), "2024-02-29T00:00");
            Check.due("room behind a text", Edge.room(desk), 30);
        }
    }

    /** What stood in the line before is no part of it, wherever the new text ends. */
    private static void shorterLineBehindALonger() {
        for (int length = 0; length < FULL.length(); length++) {
            TimeDesk desk = new TimeDesk();
            Desk.type(desk, FULL);
            desk.parse(1);
            Desk.type(desk, FULL.substring(0, length));
            boolean isText = length == 11 || length == 17 || length == 20 || length >= 22;
            Class<?> thrown = Check.thrown(() -> { desk.parse(0); return 0; });
            Check.due("parse of " + length + " of thirty throws", String.valueOf(thrown),
                    String.valueOf(isText ? null : Edge.ARGUMENT));
            if (isText) {
                String line = FULL.substring(0, length);
                Check.due("parse of " + length + " of thirty", Desk.take(desk, 0),
                        LocalDateTime.parse(length == 11 ? line + "T00:00" : line));
            }
        }
    }

    private static void reads(String line, String want) {
        TimeDesk desk = Edge.used();
        Check.thrown(() -> { desk.parse(0); return 0; });
        Desk.put(desk, 0, BEFORE);
        Desk.type(desk, line);
        Class<?> thrown = Check.thrown(() -> { desk.parse(0); return 0; });
        Check.due("parse of '" + line + "' throws " + thrown, thrown == null, true);
        Check.due("parse of '" + line + "'", Desk.take(desk, 0), LocalDateTime.parse(want));
    }

    private static void noText(String... lines) {
        for (String line : lines) {
            TimeDesk desk = Edge.used();
            TimeDesk spared = Edge.used();
            Check.thrown(() -> { desk.parse(0); return 0; });
            Check.thrown(() -> { spared.parse(0); return 0; });
            Desk.type(desk, line);
            Check.dueThrow("parse of '" + line + "'", Edge.ARGUMENT, () -> { desk.parse(0); return 0; });
            Check.due("'" + line + "' changes nothing but the line", Edge.seen(desk), Edge.seen(spared));
        }
    }

    /** "YEAR: four digits, perhaps - before (not -0000)." */
    private static void years() {
        reads("-9999-01-01", Edge.FIRST);
        reads("9999-12-31T23:59:59.999999999", Edge.LAST);
        reads("0000-01-01", "0000-01-01T00:00");
        reads("0001-01-01", "0001-01-01T00:00");
        reads("-0001-12-31", "-0001-12-31T00:00");
        reads("-0004-02-29", "-0004-02-29T00:00");
        reads("0000-02-29", "0000-02-29T00:00");
        noText("-0000-01-01", "-0000-12-31T23:59:59.999999999", "+2023-01-01", "--023-01-01", "--2023-01-01",
                "999-01-01", "-999-01-01", "10000-01-01", "-10000-01-01", "00001-01-01", " 2023-01-01",
                "0x23-01-01", "202 -01-01", "/023-01-01", ":023-01-01", "-", "-2023");
    }

    /** "YEAR-MM-DD", of which there is a date. */
    private static void monthsAndDays() {
        reads("2023-01-01", "2023-01-01T00:00");
        reads("2023-12-31", "2023-12-31T00:00");
        reads("2023-02-28", "2023-02-28T00:00");
        reads("2024-02-29", "2024-02-29T00:00");
        reads("2000-02-29", "2000-02-29T00:00");
        reads("2023-04-30", "2023-04-30T00:00");
        noText("2023-00-01", "2023-13-01", "2023-01-00", "2023-01-32", "2023-12-32", "2023-02-29", "2024-02-30",
                "1900-02-29", "-0001-02-29", "2023-04-31", "2023-1-01", "2023-01-1", "2023-001-1", "2023-01-001",
                "2023-99-99", "2023-0/-01", "2023-0:-01", "2023-01-0/", "2023-01-0:", "2023-01", "2023-01-",
                "202301-01", "2023-0101", "2023/01-01", "2023-01/01");
    }

    /** "HH:MM", ":SS": hours to 23, minutes and seconds to 59. */
    private static void times() {
        reads("2023-01-01T00:00", "2023-01-01T00:00");
        reads("2023-01-01T23:59", "2023-01-01T23:59");
        reads("2023-01-01T00:00:00", "2023-01-01T00:00");
        reads("2023-01-01T23:59:59", "2023-01-01T23:59:59");
        noText("2023-01-01T24:00", "2023-01-01T24:00:00", "2023-01-01T00:60", "2023-01-01T00:00:60",
                "2023-01-01T23:59:60", "2023-01-01T99:99", "2023-01-01T0:00", "2023-01-01T00:0", "2023-01-01T00:00:0",
                "2023-01-01T000:00", "2023-01-01T00:000", "2023-01-01T00:00:000", "2023-01-01T-1:00",
                "2023-01-01T00:-1", "2023-01-01T00:00:-1", "2023-01-01T0/:00", "2023-01-01T0::00");
    }

    /** "perhaps T and HH:MM, perhaps :SS, perhaps a point ..": each only behind the one before it. */
    private static void parts() {
        noText("2023-01-01T", "2023-01-01T1", "2023-01-01T10", "2023-01-01T10:", "2023-01-01T10:20:",
                "2023-01-01T10:20:30.", "2023-01-01:30", "2023-01-01.5", "2023-01-01T10.5", "2023-01-01T10:20.5",
                "2023-01-01T:30", "2023-01-01T.5", "2023-01-01T10:20:30:40", "2023-01-01T10:20:30.5.5",
                "2023-01-01 10:20", "2023-01-01t10:20", "2023-01-01U10:20", "2023-01-01S10:20", "2023-01-0110:20",
                "2023-01-01T10:20:30,5", "2023-01-01T10:20:30/5", "2023-01-01T10;20", "2023-01-01T10:20;30",
                "2023-01-01 ", "2023-01-01T10:20 ", "2023-01-01T10:20:30 ", "2023-01-01T10:20:30.5 ",
                "2023-01-01Z", "2023-01-01T10:20Z", "2023-01-01T10:20:30Z", "T10:20", "10:20");
    }

    /** "a point and 1 to 9 digits". */
    private static void fractions() {
        String digits = "";
        for (int count = 1; count <= 9; count++) {
            digits += count;
            reads("2023-01-01T10:20:30." + digits, "2023-01-01T10:20:30." + digits);
            reads("2023-01-01T10:20:30." + "9".repeat(count), "2023-01-01T10:20:30." + "9".repeat(count));
            reads("2023-01-01T10:20:30." + "0".repeat(count), "2023-01-01T10:20:30");
            reads("2023-01-01T10:20:30." + "0".repeat(count - 1) + "1",
                    "2023-01-01T10:20:30." + "0".repeat(count - 1) + "1");
        }
        noText("2023-01-01T10:20:30.", "2023-01-01T10:20:30.1234567890", "2023-01-01T10:20:30.0000000000",
                "2023-01-01T10:20:30.-1", "2023-01-01T10:20:30.+1", "2023-01-01T10:20:30.x", "2023-01-01T10:20:30.1x",
                "2023-01-01T10:20:30. 1", "2023-01-01T10:20:30./", "2023-01-01T10:20:30.:",
                "2023-01-01T10:20:30.12345678:", "2023-01-01T10:20:30.123456789x");
    }

    private static void writes(String when, String want) {
        TimeDesk desk = Edge.holding(when);
        Check.due("text of " + when, Desk.text(desk, 0), want);
        Check.due("the end of " + want, desk.text(0, want.length() - 1), want.charAt(want.length() - 1));
        Check.due("behind the end of " + want, desk.text(0, want.length()), -1);
        Check.due("text changes nothing", Edge.seen(desk), Edge.seen(Edge.holding(when)));
    }

    /** "seconds only if they or the nanoseconds are not 0"; "always with T". */
    private static void writtenSeconds() {
        writes("2023-01-01T00:00", "2023-01-01T00:00");
        writes("2023-01-01T23:59", "2023-01-01T23:59");
        writes("2023-01-01T00:00:01", "2023-01-01T00:00:01");
        writes("2023-01-01T00:00:59", "2023-01-01T00:00:59");
        writes("2023-01-01T00:00:10", "2023-01-01T00:00:10");
        writes("2023-01-01T00:01", "2023-01-01T00:01");
        writes("2023-01-01T00:00:00.5", "2023-01-01T00:00:00.500");
        writes("2023-01-01T00:00:00.000000001", "2023-01-01T00:00:00.000000001");
    }

    /** "these with 3, 6 or 9 digits, as few as show them". */
    private static void writtenFractions() {
        String[] written = {"001", "010", "100", "999", "000001", "000010", "000100", "000999", "001001", "100001",
            "999999", "000000001", "000000010", "000000100", "000000999", "000001001", "001000001", "100000001",
            "999999999", "999999990", "123456700"};
        for (String digits : written) {
            writes("2023-01-01T00:00:00." + digits, "2023-01-01T00:00:00." + digits);
            writes("2023-01-01T10:20:30." + digits, "2023-01-01T10:20:30." + digits);
        }
    }

    private static void writtenYears() {
        writes(Edge.FIRST, "-9999-01-01T00:00");
        writes("-9999-12-31T23:59:59.999999999", "-9999-12-31T23:59:59.999999999");
        writes("-1000-01-01T00:00", "-1000-01-01T00:00");
        writes("-0999-01-01T00:00", "-0999-01-01T00:00");
        writes("-0001-12-31T00:00", "-0001-12-31T00:00");
        writes("0000-01-01T00:00", "0000-01-01T00:00");
        writes("0001-01-01T00:00", "0001-01-01T00:00");
        writes("0999-10-10T00:00", "0999-10-10T00:00");
        writes("1000-09-09T00:00", "1000-09-09T00:00");
        writes(Edge.LAST, "9999-12-31T23:59:59.999999999");
    }

    /** "-1 behind its end", wherever that is. */
    private static void behindTheEnd() {
        String[] texts = {"2023-01-01T10:20", "2023-01-01T10:20:30", "2023-01-01T10:20:30.123",
            "2023-01-01T10:20:30.123456", "2023-01-01T10:20:30.123456789", "-2023-01-01T10:20:30.123456789"};
        TimeDesk desk = new TimeDesk();
        for (String text : texts) {
            Desk.put(desk, 1, text);
            // A longer text that was asked for before leaves nothing behind.
            Check.due("the last of thirty", shown(desk, FULL, 29), '9');
            for (int k = 0; k < text.length(); k++) {
                Check.due("character " + k + " of " + text, desk.text(1, k), text.charAt(k));
            }
            for (int k : new int[] {text.length(), text.length() + 1, 30, 31, 1000, Integer.MAX_VALUE}) {
                Check.due("character " + k + " of " + text, desk.text(1, k), -1);
            }
        }
    }

    private static int shown(TimeDesk desk, String when, int k) {
        Desk.put(desk, 0, when);
        return desk.text(0, k);
    }

    /** "IllegalArgumentException: k is below 0". */
    private static void beforeTheBeginning() {
        for (int k : new int[] {-1, -2, -30, Integer.MIN_VALUE}) {
            for (int slot : new int[] {0, 7}) {
                Edge.throwsOn("text(" + slot + ", " + k + ")", Edge.ARGUMENT, desk -> desk.text(slot, k));
            }
            for (int slot : new int[] {-1, 8}) {
                Edge.throwsOn("text(" + slot + ", " + k + ")", Edge.INDEX, desk -> desk.text(slot, k));
            }
        }
        Check.due("the first character", Edge.holding(Edge.FIRST).text(0, 0), '-');
        Check.due("the first character", Edge.holding(Edge.LAST).text(0, 0), '9');
    }
}

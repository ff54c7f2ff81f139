import java.time.LocalDateTime;
import java.util.Random;

/** Promises 17 (julian), 18 (type), 19 (parse) and 20 (text). */
public final class TextTest {
    private static final Class<?> ARGUMENT = IllegalArgumentException.class;

    public static void main(String[] args) {
        julian();
        typing();
        readTexts();
        refusedTexts();
        bentTexts();
        lineAfterReading();
        writtenTexts();
        wrongPlaces();
        thereAndBack();
        Check.end();
    }

    private static void julian() {
        julian("1970-01-01T00:00", 2440587.5);
        julian("2000-01-01T12:00", 2451545.0);
        julian("-4713-11-24T12:00", 0.0);
        julian("1858-11-17T00:00", 2400000.5);
        julian("9999-12-31T23:59:59.999999999", (2932896 + 2440587.5) + 86399999999999L / 8.64E13);
        julian("-9999-01-01T00:00", -1930999.5);
        Random random = new Random(17);
        for (int i = 0; i < 20000; i++) {
            TimeDesk desk = new TimeDesk();
            LocalDateTime when = Times.any(random);
            Desk.put(desk, 0, when);
            Check.due("julian day of " + when, Double.doubleToLongBits(desk.julian(0)),
                    Double.doubleToLongBits(PlainTime.julian(when)));
        }
    }

    private static void julian(String when, double want) {
        TimeDesk desk = new TimeDesk();
        Desk.put(desk, 1, when);
        Check.due("julian day of " + when, desk.julian(1), want);
    }

    private static void typing() {
        for (int c = 0; c <= Character.MAX_VALUE; c++) {
            TimeDesk desk = new TimeDesk();
            Check.due("type " + c, desk.type((char) c), c >= 32 && c <= 126);
        }
        TimeDesk desk = new TimeDesk();
        for (int i = 0; i < 30; i++) {
            Check.due("type one of thirty", desk.type('x'), true);
        }
        Check.due("type one more", desk.type('x'), false);
        Check.dueThrow("thirty of x", ARGUMENT, () -> { desk.parse(0); return 0; });
        Check.due("type into the empty line", desk.type('2'), true);
        TimeDesk other = new TimeDesk();
        Desk.type(other, "2023-\n01\t-0\u00001\u007f\u0130");
        other.parse(0);
        Check.due("what is refused is not there", Desk.text(other, 0), "2023-01-01T00:00");
        TimeDesk full = new TimeDesk();
        Desk.type(full, "-9999-12-31T23:59:59.123456789" + "0");
        full.parse(0);
        Check.due("a line of thirty", Desk.text(full, 0), "-9999-12-31T23:59:59.123456789");
    }

    private static void readTexts() {
        read("2024-02-29", "2024-02-29T00:00");
        read("0000-01-01", "0000-01-01T00:00");
        read("-0001-12-31", "-0001-12-31T00:00");
        read("-9999-01-01T00:00", "-9999-01-01T00:00");
        read("9999-12-31T23:59:59.999999999", "9999-12-31T23:59:59.999999999");
        read("2023-01-01T10:20", "2023-01-01T10:20");
        read("2023-01-01T10:20:00", "2023-01-01T10:20");
        read("2023-01-01T10:20:30", "2023-01-01T10:20:30");
        read("2023-01-01T10:20:00.0", "2023-01-01T10:20");
        read("2023-01-01T10:20:30.5", "2023-01-01T10:20:30.500");
        read("2023-01-01T10:20:30.12", "2023-01-01T10:20:30.120");
        read("2023-01-01T10:20:30.0012", "2023-01-01T10:20:30.001200");
        read("2023-01-01T10:20:30.00123", "2023-01-01T10:20:30.001230");
        read("2023-01-01T10:20:30.1234567", "2023-01-01T10:20:30.123456700");
        read("2023-01-01T10:20:30.12345678", "2023-01-01T10:20:30.123456780");
        read("2023-01-01T10:20:00.000000001", "2023-01-01T10:20:00.000000001");
    }

    private static void read(String line, String want) {
        TimeDesk desk = new TimeDesk();
        Desk.put(desk, 3, "1999-09-09T09:09:09.999999999");
        Desk.type(desk, line);
        Class<?> thrown = Check.thrown(() -> { desk.parse(3); return 0; });
        Check.due("parse of " + line + " throws", thrown == null, true);
        Check.due("parse of " + line, Desk.text(desk, 3), want);
        Check.due("other slots stay", Desk.text(desk, 2), "1970-01-01T00:00");
    }

    private static void refusedTexts() {
        String[] lines = {"", "-", "T", "2023", "2023-", "2023-01", "2023-01-", "2023-01-0", "2023-01-01T",
            "2023-01-01T1", "2023-01-01T10", "2023-01-01T10:", "2023-01-01T10:2", "2023-01-01T10:20:",
            "2023-01-01T10:20:3", "2023-01-01T10:20:30.", "2023-01-01T10:20:30.1234567890",
            "2023-01-01T10:20.5", "2023-01-01:30", "2023-01-01.5", "2023-01-0110:20", "2023-01-01T10:20:30:40",
            "2023-01-01T10:20:30,5", "2023-01-01t10:20", "2023-01-01 10:20", "2023-01-01T10:20Z", " 2023-01-01",
            "2023-01-01 ", "2023-1-01", "2023-01-1", "203-01-01", "02023-01-01", "+2023-01-01", "--2023-01-01",
            "-0000-01-01", "-0000-01-01T00:00", "2023/01/01", "20230101", "2023-00-01", "2023-13-01", "2023-01-00",
            "2023-01-32", "2023-02-29", "1900-02-29", "2023-04-31", "2023-01-01T24:00", "2023-01-01T23:60",
            "2023-01-01T23:59:60", "2023-01-01T-1:00", "2023-01-01T1:00", "2023-01-01T10:20:-1", "2023--1-01",
            "2023-01-01T10:20:30.-1", "2023-01-01T10:20:30.1x", "2O23-01-01", "2023-01-01T10:20:30.123456789x"};
        for (String line : lines) {
            refused(line);
        }
    }

    private static void refused(String line) {
        TimeDesk desk = new TimeDesk();
        String before = "1999-09-09T09:09:09.999999999";
        Desk.put(desk, 3, before);
        Desk.type(desk, line);
        Check.dueThrow("parse of '" + line + "'", ARGUMENT, () -> { desk.parse(3); return 0; });
        Check.due("'" + line + "' leaves", Desk.text(desk, 3), before);
        Desk.type(desk, "2024-02-29");
        desk.parse(3);
        Check.due("the line is empty behind '" + line + "'", Desk.text(desk, 3), "2024-02-29T00:00");
    }

    /** Every character of a good text in turn made any other: only what java.time's shape allows is read. */
    private static void bentTexts() {
        String good = "-2024-02-19T11:12:13.123456789";
        for (int at = 0; at < good.length(); at++) {
            for (char c = 32; c <= 126; c++) {
                String line = good.substring(0, at) + c + good.substring(at + 1);
                bent(line);
            }
            bent(good.substring(0, at));
            bent(good.substring(at));
        }
    }

    private static void bent(String line) {
        TimeDesk desk = new TimeDesk();
        Desk.type(desk, line);
        LocalDateTime want = PlainTime.read(line);
        if (want == null) {
            Check.dueThrow("parse of '" + line + "'", ARGUMENT, () -> { desk.parse(0); return 0; });
        } else {
            desk.parse(0);
            Check.due("parse of '" + line + "'", Desk.take(desk, 0), want);
        }
    }

    private static void lineAfterReading() {
        TimeDesk desk = new TimeDesk();
        Desk.type(desk, "2024-02-29");
        desk.parse(0);
        Check.dueThrow("the line is empty behind a text", ARGUMENT, () -> { desk.parse(0); return 0; });
        Desk.type(desk, "2024-");
        desk.plus(1, 1, 7);
        Desk.text(desk, 1);
        Desk.type(desk, "03-01");
        desk.parse(0);
        Check.due("other calls leave the line", Desk.text(desk, 0), "2024-03-01T00:00");
    }

    private static void writtenTexts() {
        written("2023-01-01T10:20", "2023-01-01T10:20");
        written("2023-01-01T10:20:05", "2023-01-01T10:20:05");
        written("2023-01-01T10:20:00.1", "2023-01-01T10:20:00.100");
        written("2023-01-01T10:20:00.001", "2023-01-01T10:20:00.001");
        written("2023-01-01T10:20:00.0001", "2023-01-01T10:20:00.000100");
        written("2023-01-01T10:20:00.000001", "2023-01-01T10:20:00.000001");
        written("2023-01-01T10:20:00.0000001", "2023-01-01T10:20:00.000000100");
        written("2023-01-01T10:20:00.000000001", "2023-01-01T10:20:00.000000001");
        written("2023-01-01T10:20:59.999999999", "2023-01-01T10:20:59.999999999");
        written("0000-01-01T00:00", "0000-01-01T00:00");
        written("0007-01-01T00:00", "0007-01-01T00:00");
        written("-0007-11-09T00:00", "-0007-11-09T00:00");
        written("-9999-12-31T23:59:59.000000009", "-9999-12-31T23:59:59.000000009");
    }

    private static void written(String when, String want) {
        TimeDesk desk = new TimeDesk();
        Desk.put(desk, 7, when);
        Check.due("text of " + when, Desk.text(desk, 7), want);
        for (int k : new int[] {want.length(), want.length() + 1, 30, 31, Integer.MAX_VALUE}) {
            Check.due("behind the end of " + want, desk.text(7, k), -1);
        }
    }

    private static void wrongPlaces() {
        TimeDesk desk = new TimeDesk();
        for (int k : new int[] {-1, -2, Integer.MIN_VALUE}) {
            Check.dueThrow("text(0, " + k + ")", ARGUMENT, () -> desk.text(0, k));
        }
        Desk.put(desk, 0, "-9999-12-31T23:59:59.123456789");
        Check.due("the last of thirty", desk.text(0, 29), '9');
        Check.due("behind a long text, a short one", desk.text(1, 16), -1);
    }

    private static void thereAndBack() {
        Random random = new Random(20);
        for (int i = 0; i < 20000; i++) {
            TimeDesk desk = new TimeDesk();
            LocalDateTime when = Times.any(random);
            Desk.put(desk, 0, when);
            String text = Desk.text(desk, 0);
            Check.due("text of " + when, text, when.toString());
            Desk.type(desk, text);
            desk.parse(1);
            Check.due("parse of " + text, Desk.take(desk, 1), when);
        }
    }
}

import java.io.IOException;
import java.nio.charset.StandardCharsets;
import java.nio.file.Files;
import java.nio.file.Path;
import java.util.List;

/** The rules of LANGUAGE.md, as far as they can be seen in the source; to be run in the project's folder. */
public final class LanguageTest {
    public static void main(String[] args) throws IOException {
        brokenRules();
        String source = Files.readString(Path.of("src/main/java/TimeDesk.java"), StandardCharsets.US_ASCII);
        Check.due("faults of TimeDesk.java", SourceRules.faults(source), List.of());
        Check.end();
    }

    /** Faults that have to be found: rules that are never seen broken would tell nothing. */
    private static void brokenRules() throws IOException {
        kept("private int f(int i) { return i / 2; }");
        kept("private int[] a = new int[4]; private int f(int i) { return i >= 0 && i < 4 ? a[i] : 0; }");
        kept("private int f(int i) { return i > 0 ? 7 / i : 0; }");
        kept("private int f() { int s = 0; for (int i = 0; i < 9; i++) { s += i; } return s; }");
        broken(1, "int seen;");
        broken(1, "public static class Seen { }");
        broken(1, "final class Inner { }");
        broken(2, "Runnable f() { return () -> { }; }");
        broken(2, "int f() { class Local { } return 0; }");
        broken(3, "Object f() { return null; }");
        broken(3, "java.util.Map<String, String> m;");
        broken(3, "double f(double d) { return d % 2; }");
        broken(3, "double f(double d) { return Math.abs(d); }");
        broken(3, "char f() { return '\\u0100'; }");
        broken(4, "int f(int i) { return Math.addExact(i, i); }");
        broken(4, "long f() { return System.nanoTime(); }");
        broken(4, "String f(String s) { return s.trim(); }");
        broken(5, "private static int count;");
        broken(5, "private static final double D = 0.5;");
        broken(5, "private static final int[] A = new int[3];");
        broken(5, "private static final int I; static { I = 0; }");
        broken(6, "void f() { throw new Error(); }");
        broken(6, "void f(String s) { throw new ArithmeticException(s); }");
        broken(6, "TimeDesk(int i) { throw new ArithmeticException(); }");
        broken(6, "void f() { try { f(); } catch (ArithmeticException e) { } }");
        broken(6, "synchronized void g() { } void f() { synchronized (this) { } }");
        broken(6, "void f(int i) { assert i > 0; }");
        broken(6, "boolean f(String s) { return s == \"\"; }");
        broken(6, "public String toString() { return \"\"; }");
        broken(6, "static class E extends RuntimeException { }");
        broken(7, "int f(int i) { return 7 / i; }");
        broken(7, "int f(int i) { return 7 % i; }");
        broken(7, "int f(int i) { return Math.floorMod(7, i); }");
        broken(7, "int f(int i) { int s = 7; s /= i; return s; }");
        broken(7, "int f() { return 7 / 0; }");
        broken(7, "int[] a = new int[4]; int f(int i) { return a[i]; }");
        broken(7, "int[] a; TimeDesk(int i) { a = new int[i]; }");
        broken(8, "int f(int i) { return i > 0 ? f(i - 1) : 0; }");
        broken(9, "void f(boolean b) { while (b) { } }");
        broken(9, "void f() { for (;;) { } }");
        broken(9, "void f(int i) { for (int j = 0; i < 9; j++) { } }");
        broken(10, "String f(String s) { return s + \"x\"; }");
        broken(10, "int f(String s) { switch (s) { default: return 1; } }");
        broken(11, "int f(int a, int b, int c, int d, int e, int g, int h, int i) { return 0; }");
        broken(11, "void f() {" + "\n".repeat(61) + "}");
        broken(11, classes(12));
        broken(11, "int a1() { return 0; }" + chain(9));
        broken(12, "static class A { } A f() { return new A(); }");
        broken(12, "int[] f() { return new int[2]; }");
    }

    private static String classes(int count) {
        StringBuilder all = new StringBuilder();
        for (int i = 0; i < count; i++) {
            all.append("private static class A").append(i).append(" { } ");
        }
        return all.toString();
    }

    private static String chain(int length) {
        StringBuilder all = new StringBuilder();
        for (int i = 2; i <= length; i++) {
            all.append(" int a").append(i).append("() { return a").append(i - 1).append("(); }");
        }
        return all.toString();
    }

    private static List<String> faultsOf(String members) throws IOException {
        return SourceRules.faults("public final class TimeDesk { " + members + " }");
    }

    private static void kept(String members) throws IOException {
        Check.due("faults of " + members, faultsOf(members), List.of());
    }

    private static void broken(int rule, String members) throws IOException {
        List<String> faults = faultsOf(members);
        boolean isFound = faults.stream().anyMatch(fault -> fault.startsWith(rule + ":"));
        Check.due("rule " + rule + " is broken by " + members + ", found are " + faults, isFound, true);
    }
}

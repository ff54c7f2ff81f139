import java.nio.charset.StandardCharsets;
import java.nio.file.Files;
import java.nio.file.Path;
import java.util.regex.Matcher;
import java.util.regex.Pattern;

/** The rules of LANGUAGE.md that can be seen in the source; to be run in the project's folder. */
public final class LanguageTest {
    private static final String[] RULED_OUT = {
        "\\bpackage\\b", "\\bimport\\b", "->", "::", "\\w+Exact\\b", "\\btry\\b", "\\bcatch\\b", "\\bfinally\\b",
        "\\bsynchronized\\b", "\\bassert\\b", "\\bvar\\b", "\\bprotected\\b", "\\bnative\\b", "\\bthrow\\s+(?!new\\b)",
        "Math\\.(?!floorDiv\\b|floorMod\\b|min\\b|max\\b|abs\\b)", "\\bSystem\\b", "\\bThread\\b", "\\bRandom\\b",
        "static\\s+(final\\s+)?double\\b", "\\bstatic\\s*\\{", "\\bwhile\\s*\\(\\s*true", "for\\s*\\(\\s*;\\s*;",
    };
    private static final Pattern THROWN = Pattern.compile("throw new (\\w+)\\(([^;]*)\\);");
    private static final Pattern METHOD = Pattern.compile("(?m)^( {4}| {8})(\\w[^;=]*?\\)[^;={]*)\\{$");

    public static void main(String[] args) throws Exception {
        String source = Files.readString(Path.of("src/main/java/TimeDesk.java"), StandardCharsets.US_ASCII);
        String bare = source.replaceAll("(?s)/\\*.*?\\*/", "").replaceAll("//[^\n]*", "");
        String code = bare.replaceAll("\"[^\"\n]*\"", "\"\"");
        for (String word : RULED_OUT) {
            Check.due("has " + word, Pattern.compile(word).matcher(code).find(), false);
        }
        thrown(bare);
        methodLengths(source);
        Check.end();
    }

    private static void thrown(String code) {
        int all = code.split("\\bthrow\\b", -1).length - 1;
        Matcher matcher = THROWN.matcher(code);
        int found = 0;
        while (matcher.find()) {
            found++;
            Check.due(matcher.group(1) + " may be thrown", matcher.group(1).matches("IllegalArgumentException"
                    + "|IndexOutOfBoundsException|ArithmeticException|UnsupportedOperationException"), true);
            Check.due(matcher.group(2) + " is a written text", matcher.group(2).matches("\"[^\"]*\""), true);
        }
        Check.due("exceptions that are thrown as they should", found, all);
    }

    private static void methodLengths(String source) {
        Matcher matcher = METHOD.matcher(source);
        int found = 0;
        while (matcher.find()) {
            found++;
            int end = source.indexOf("\n" + matcher.group(1) + "}", matcher.end());
            int lines = source.substring(matcher.end(), end).split("\n").length;
            Check.due("lines below 60 of " + matcher.group(2).trim(), lines < 60, true);
        }
        Check.due("methods were found", found > 50, true);
    }
}

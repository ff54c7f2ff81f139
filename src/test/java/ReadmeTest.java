import java.io.IOException;
import java.lang.reflect.Method;
import java.net.URL;
import java.net.URLClassLoader;
import java.nio.charset.StandardCharsets;
import java.nio.file.Files;
import java.nio.file.Path;
import java.util.ArrayList;
import java.util.List;
import java.util.TreeMap;
import java.util.TreeSet;
import java.util.regex.Matcher;
import java.util.regex.Pattern;
import java.util.stream.Collectors;
import java.util.stream.Stream;
import javax.tools.ToolProvider;

/** The examples and tables of README.md; to be run in the project's folder. */
public final class ReadmeTest {
    private static final Pattern BLOCK = Pattern.compile("(?ms)^```java\n(.*?)^```$");
    private static final Pattern ANSWER = Pattern.compile("\\s*(.*?);\\s*// = (\"[^\"]*\"|[^\\s,]+)(,.*)?");
    private static final Pattern THROWN = Pattern.compile("\\s*(.*?);\\s*// throws (\\w+)(,.*)?");
    private static final Pattern REFUSAL = Pattern.compile("(?m)^\\| `(\\w+)` \\| (.*) \\|$");
    private static final Pattern TEST = Pattern.compile("(?m)^\\| (\\w+Test) \\| .+ \\|$");

    public static void main(String[] args) throws Exception {
        String readme = Files.readString(Path.of("README.md"), StandardCharsets.UTF_8);
        List<Object[]> seen = new ArrayList<>();
        int shown = run(program(readme), seen);
        for (Object[] answer : seen) {
            Check.due((String) answer[0], String.valueOf(answer[1]), String.valueOf(answer[2]));
        }
        Check.due("answers that the examples came to", seen.size(), shown);
        Check.due("the examples show answers", shown > 50, true);
        methodsOfExamples(readme);
        refusals(readme);
        tests(readme);
        Check.end();
    }

    /** The blocks of README.md as one class; each answer that is shown goes into a list with the one that came. */
    private static String program(String readme) {
        StringBuilder methods = new StringBuilder();
        StringBuilder statements = new StringBuilder();
        Matcher block = BLOCK.matcher(readme);
        while (block.find()) {
            if (block.group(1).startsWith("static")) {
                methods.append(block.group(1));
                continue;
            }
            statements.append("{\n");
            for (String line : block.group(1).split("\n")) {
                statements.append(statement(line)).append('\n');
            }
            statements.append("}\n");
        }
        return "public class Examples {\n" + methods + "public static void run(java.util.List<Object[]> seen) {\n"
                + statements + "}\n}\n";
    }

    private static String statement(String line) {
        Matcher answer = ANSWER.matcher(line);
        if (answer.matches()) {
            return "seen.add(new Object[] {" + quoted(answer.group(1)) + ", " + answer.group(1) + ", "
                    + value(answer.group(2)) + "});";
        }
        Matcher thrown = THROWN.matcher(line);
        if (thrown.matches()) {
            String told = "seen.add(new Object[] {" + quoted(thrown.group(1)) + ", ";
            String want = ", " + quoted(thrown.group(2)) + "});";
            return "try { " + thrown.group(1) + "; " + told + "\"nothing\"" + want + " } catch (RuntimeException e) { "
                    + told + "e.getClass().getSimpleName()" + want + " }";
        }
        return line;
    }

    /** Answers are compared as texts: a character is answered as its number. */
    private static String value(String shown) {
        return shown.startsWith("'") ? "(int) " + shown : shown.matches("-?\\d+") ? shown + "L" : shown;
    }

    private static String quoted(String text) {
        return "\"" + text.replace("\\", "\\\\").replace("\"", "\\\"") + "\"";
    }

    /** How many answers the examples show. */
    private static int run(String program, List<Object[]> seen) throws Exception {
        Path folder = Files.createTempDirectory("readme");
        Path source = folder.resolve("Examples.java");
        try {
            Files.writeString(source, program);
            int result = ToolProvider.getSystemJavaCompiler().run(null, null, null, "-d", folder.toString(),
                    "-cp", System.getProperty("java.class.path"), source.toString());
            Check.due("the examples are compiled", result, 0);
            try (URLClassLoader loader = new URLClassLoader(new URL[] {folder.toUri().toURL()})) {
                loader.loadClass("Examples").getMethod("run", List.class).invoke(null, seen);
            }
        } finally {
            for (String name : new String[] {"Examples.java", "Examples.class", ""}) {
                Files.deleteIfExists(folder.resolve(name));
            }
        }
        int shown = 0;
        for (String line : program.split("\n")) {
            shown += line.contains("seen.add") ? 1 : 0;
        }
        return shown;
    }

    private static TreeMap<String, Method> face() {
        TreeMap<String, Method> face = new TreeMap<>();
        for (Method method : TimeDesk.class.getMethods()) {
            if (method.getDeclaringClass() == TimeDesk.class) {
                face.put(method.getName(), method);
            }
        }
        return face;
    }

    private static void methodsOfExamples(String readme) {
        TreeSet<String> called = new TreeSet<>();
        Matcher block = BLOCK.matcher(readme);
        while (block.find()) {
            Matcher call = Pattern.compile("\\bdesk\\.(\\w+)\\(").matcher(block.group(1));
            while (call.find()) {
                called.add(call.group(1));
            }
        }
        Check.due("methods that the examples call", called, face().keySet());
    }

    /** Each method once, with its exceptions in the order of the face, or with false if it has none. */
    private static void refusals(String readme) {
        TreeSet<String> told = new TreeSet<>();
        Matcher row = REFUSAL.matcher(readme);
        while (row.find()) {
            Check.due("a row of " + row.group(1), told.add(row.group(1)), true);
            Method method = face().get(row.group(1));
            if (method != null) {
                List<String> want = Stream.of(method.getExceptionTypes()).map(Class::getSimpleName)
                        .collect(Collectors.toList());
                List<String> names = Pattern.compile("`(\\w+)`:").matcher(row.group(2)).results()
                        .map(found -> found.group(1)).collect(Collectors.toList());
                Check.due("what " + row.group(1) + " throws", names, want.isEmpty() ? List.of("false") : want);
            }
        }
        Check.due("methods in the table", told, face().keySet());
    }

    private static void tests(String readme) throws IOException {
        TreeSet<String> told = new TreeSet<>();
        Matcher row = TEST.matcher(readme);
        while (row.find()) {
            told.add(row.group(1));
        }
        TreeSet<String> tests = new TreeSet<>();
        try (Stream<Path> files = Files.list(Path.of("src/test/java"))) {
            for (Path file : files.collect(Collectors.toList())) {
                String name = file.getFileName().toString().replace(".java", "");
                Check.due(name + " is told of", Pattern.compile("\\b" + name + "\\b").matcher(readme).find(), true);
                if (name.endsWith("Test")) {
                    tests.add(name);
                }
            }
        }
        Check.due("tests in the table", told, tests);
    }
}

import java.io.IOException;
import java.lang.reflect.Method;
import java.lang.reflect.Modifier;
import java.net.URL;
import java.net.URLClassLoader;
import java.nio.file.DirectoryStream;
import java.nio.file.Files;
import java.nio.file.Path;
import java.util.ArrayList;
import java.util.List;
import java.util.Map;
import java.util.Set;
import java.util.TreeSet;
import java.util.regex.Matcher;
import java.util.regex.Pattern;

/** What README.md shows: its calls are compiled and give the answers behind them; what it names is there. */
public final class ReadmeTest {
    private static final Map<String, Integer> CONSTANTS = Map.of("NONE", MeetingsAbove.NONE, "UNKNOWN",
        MeetingsAbove.UNKNOWN, "OUTSIDE", MeetingsAbove.OUTSIDE, "NOT", MeetingsAbove.NOT, "FULL", MeetingsAbove.FULL);
    private static final String FRESH = "MeetingsAbove m = new MeetingsAbove();";
    private static final Pattern CALL = Pattern.compile(
        "(?:(?:int|long) (\\w+) = )?(m\\.(\\w+)\\([^;]*\\));\\s+// (-?\\d+|[A-Z]+)(?:: .*)?");
    private static final Pattern CONSTANT = Pattern.compile("`([A-Z]+)`(?:, which is| \\|) (-?\\d+)");
    private static final Pattern CLASS = Pattern.compile("`([A-Z]\\w+(?:Test|Edges))`");

    /** A call as it stands in a line of README.md; the variable may be null. */
    private record Shown(String line, String variable, String call, String method, long answer) {
    }

    private static final List<Shown> ALL = new ArrayList<>();
    private static final StringBuilder CODE = new StringBuilder();

    public static void main(String[] args) throws Exception {
        Path root = Path.of(args.length > 0 ? args[0] : ".");
        List<String> lines = Files.readAllLines(root.resolve("README.md"));
        readCalls(lines);
        answers();
        eachIsShown();
        constants(String.join("\n", lines));
        testsAreNamed(root, String.join("\n", lines));
        Due.end();
    }

    // ---- calls and answers

    private static void readCalls(List<String> lines) {
        boolean isJava = false;
        for (int i = 0; i < lines.size(); i++) {
            String line = lines.get(i);
            if (isJava && line.equals("```")) {
                CODE.append("}\n");
                isJava = false;
            } else if (line.equals("```java")) {
                CODE.append("{\n");
                isJava = true;
            } else if (isJava) {
                readLine("README.md, line " + (i + 1) + ": " + line, line);
            }
        }
    }

    private static void readLine(String name, String line) {
        Matcher found = CALL.matcher(line);
        boolean isCall = found.matches();
        Due.holds(name + " shows a call with its answer", isCall || line.equals(FRESH));
        if (!isCall) {
            CODE.append(line).append('\n');
            return;
        }
        String answer = found.group(4);
        boolean isNumber = !Character.isUpperCase(answer.charAt(0));
        Due.holds(name + " names a constant", isNumber || CONSTANTS.containsKey(answer));
        long due = isNumber ? Long.parseLong(answer) : CONSTANTS.getOrDefault(answer, 0);
        Shown it = new Shown(name, found.group(1), found.group(2), found.group(3), due);
        CODE.append(it.variable == null ? "" : line.substring(0, line.indexOf("//")));
        CODE.append("got[").append(ALL.size()).append("] = ");
        CODE.append(it.variable == null ? it.call : it.variable).append(";\n");
        ALL.add(it);
    }

    private static void answers() throws Exception {
        long[] got = compiledAndRun("public final class Shown {\npublic static long[] answers() {\n"
            + "long[] got = new long[" + ALL.size() + "];\n" + CODE + "return got;\n}\n}\n");
        Due.is("calls that README.md shows and that were run", got.length, ALL.size());
        for (int i = 0; i < got.length; i++) {
            Due.is(ALL.get(i).line, got[i], ALL.get(i).answer);
        }
    }

    private static long[] compiledAndRun(String code) throws Exception {
        Path folder = Files.createTempDirectory("readme");
        try {
            Path file = Files.writeString(folder.resolve("Shown.java"), code);
            int failed = new ProcessBuilder("javac", "-cp", System.getProperty("java.class.path"),
                "-d", folder.toString(), file.toString()).inheritIO().start().waitFor();
            Due.is("javac on what README.md shows", failed, 0);
            return failed == 0 ? run(folder) : new long[0];
        } finally {
            remove(folder);
        }
    }

    private static long[] run(Path folder) throws IOException, ReflectiveOperationException {
        try (URLClassLoader loader = new URLClassLoader(new URL[] {folder.toUri().toURL()})) {
            return (long[]) loader.loadClass("Shown").getMethod("answers").invoke(null);
        }
    }

    private static void remove(Path folder) throws IOException {
        try (DirectoryStream<Path> files = Files.newDirectoryStream(folder)) {
            for (Path file : files) {
                Files.delete(file);
            }
        }
        Files.delete(folder);
    }

    // ---- what is named

    private static void eachIsShown() {
        Set<String> shown = new TreeSet<>();
        Set<Long> answers = new TreeSet<>();
        for (Shown it : ALL) {
            shown.add(it.method);
            answers.add(it.answer);
        }
        for (Map.Entry<String, Integer> constant : CONSTANTS.entrySet()) {
            Due.holds("README.md shows " + constant.getKey(), answers.contains((long) constant.getValue()));
        }
        for (Method m : MeetingsAbove.class.getDeclaredMethods()) {
            Due.holds("README.md shows " + m.getName(),
                !Modifier.isPublic(m.getModifiers()) || shown.contains(m.getName()));
        }
    }

    private static void constants(String text) {
        Set<String> told = new TreeSet<>();
        Matcher found = CONSTANT.matcher(text);
        while (found.find()) {
            told.add(found.group(1));
            Due.is("README.md on " + found.group(1), Long.parseLong(found.group(2)),
                CONSTANTS.getOrDefault(found.group(1), 0));
        }
        Due.holds("README.md tells each constant: " + told, told.equals(CONSTANTS.keySet()));
    }

    private static void testsAreNamed(Path root, String text) throws IOException {
        Set<String> there = new TreeSet<>();
        try (DirectoryStream<Path> files =
                Files.newDirectoryStream(root.resolve("src/test/java"), "*{Test,Edges}.java")) {
            for (Path file : files) {
                there.add(file.getFileName().toString().replace(".java", ""));
            }
        }
        Set<String> named = new TreeSet<>();
        Matcher found = CLASS.matcher(text);
        while (found.find()) {
            named.add(found.group(1));
        }
        Due.holds("the tests that README.md names, " + named + ", are those there, " + there, named.equals(there));
        Due.holds("README.md says how to run the tests", text.contains("\n.ci/run\n"));
        Due.holds(".ci/run can be run", Files.isExecutable(root.resolve(".ci/run")));
    }
}

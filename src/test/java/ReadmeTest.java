import java.io.File;
import java.io.IOException;
import java.nio.file.Files;
import java.nio.file.Path;
import java.util.Set;
import java.util.TreeSet;
import java.util.regex.Matcher;
import java.util.regex.Pattern;

/** What README.md says is so: its examples and its commands are taken from there and run. */
public final class ReadmeTest {
    private static final Pattern EXAMPLE = Pattern.compile("```java\n(.*?)```", Pattern.DOTALL);
    /** A call, and in the comment behind it what it answers or throws. */
    private static final Pattern TOLD =
            Pattern.compile("(.*);\\s*// (?:throws (\\w+)|(true|false|-?\\d+))(?::.*)?");
    private static final Pattern COMMAND = Pattern.compile("^    (javac? .*)$", Pattern.MULTILINE);
    private static final Pattern CALL_ROW = Pattern.compile("^\\| `([a-z]+)\\(", Pattern.MULTILINE);
    private static final Pattern TEST_ROW = Pattern.compile("^\\| `(\\w+Test)`", Pattern.MULTILINE);
    private static final Pattern FACE = Pattern.compile("^    public \\w+ (\\w+)\\(.*\\{$", Pattern.MULTILINE);

    /** If fewer are found than README.md has, this test no longer reads what stands there. */
    private static final int LEAST_TOLD = 20;

    public static void main(String[] args) throws Exception {
        String readme = Files.readString(Path.of("README.md"));
        Path build = Files.createTempDirectory("readme");
        try {
            examplesAnswerWhatIsTold(readme, build);
            commandsForOneTestRun(readme, build);
        } finally {
            remove(build.toFile());
        }
        tableHasEveryCall(readme);
        tableHasEveryTest(readme);
        Check.end();
    }

    private static void examplesAnswerWhatIsTold(String readme, Path build) throws Exception {
        StringBuilder methods = new StringBuilder();
        StringBuilder calls = new StringBuilder();
        int told = 0;
        Matcher examples = EXAMPLE.matcher(readme);
        while (examples.find()) {
            String example = examples.group(1);
            if (example.startsWith("static ")) {
                methods.append(example);
                continue;
            }
            for (String line : example.split("\n")) {
                Matcher row = TOLD.matcher(line);
                boolean tells = row.matches();
                told += tells ? 1 : 0;
                calls.append(tells ? checked(row) : line).append('\n');
            }
        }
        Check.due("the examples tell enough answers", told >= LEAST_TOLD, true);
        Path file = build.resolve("Examples.java");
        Files.writeString(file, "final class Examples {\n" + methods
                + "public static void main(String[] args) {\n" + calls + "Check.end();\n}\n}\n");
        String classes = System.getProperty("java.class.path") + File.pathSeparator + build;
        dueToRun("javac", "-cp", classes, "-d", build.toString(), file.toString());
        dueToRun("java", "-cp", classes, "Examples");
    }

    private static String checked(Matcher row) {
        String call = row.group(1);
        String what = "\"in README.md " + call.replace("\"", "\\\"") + "\"";
        if (row.group(2) != null) {
            return "Check.dueThrow(" + what + ", " + row.group(2) + ".class, () -> " + call + ");";
        }
        return "Check.due(" + what + ", " + call + ", " + row.group(3) + ");";
    }

    /** As they stand there, but that the checkout is left as it is. */
    private static void commandsForOneTestRun(String readme, Path build) throws Exception {
        int found = 0;
        Matcher commands = COMMAND.matcher(readme);
        while (commands.find()) {
            found++;
            dueToRun("sh", "-c", commands.group(1).replace(" build ", " " + build + " "));
        }
        Check.due("commands for one test alone", found, 2);
    }

    private static void tableHasEveryCall(String readme) throws IOException {
        String source = Files.readString(Path.of("src/main/java/RoundCompiler.java"));
        dueSame("calls", found(CALL_ROW, readme), found(FACE, source));
    }

    private static void tableHasEveryTest(String readme) {
        Set<String> tests = new TreeSet<>();
        for (String file : new File("src/test/java").list()) {
            tests.add(file.replace(".java", ""));
        }
        dueSame("tests", found(TEST_ROW, readme), tests);
    }

    private static Set<String> found(Pattern pattern, String text) {
        Set<String> all = new TreeSet<>();
        Matcher each = pattern.matcher(text);
        while (each.find()) {
            all.add(each.group(1));
        }
        return all;
    }

    private static void dueSame(String what, Set<String> got, Set<String> want) {
        if (!got.equals(want)) {
            Check.report("README.md tells of the " + what + " " + got + ", due are " + want);
        }
    }

    private static void dueToRun(String... command) throws Exception {
        int code = new ProcessBuilder(command).inheritIO().start().waitFor();
        Check.due("exit code of " + String.join(" ", command), code, 0);
    }

    private static void remove(File file) {
        File[] inside = file.listFiles();
        if (inside != null) {
            for (File each : inside) {
                remove(each);
            }
        }
        file.delete();
    }
}

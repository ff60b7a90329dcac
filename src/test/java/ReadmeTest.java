import java.io.File;
import java.io.IOException;
import java.lang.reflect.Method;
import java.lang.reflect.Modifier;
import java.nio.file.Files;
import java.nio.file.Path;
import java.util.ArrayList;
import java.util.Comparator;
import java.util.List;
import java.util.Set;
import java.util.TreeSet;
import java.util.regex.Matcher;
import java.util.regex.Pattern;
import java.util.stream.Collectors;
import java.util.stream.Stream;

/** What README.md says: its examples, which are compiled and run as they stand there, and its tables. */
public final class ReadmeTest {
    private static final Path README = Path.of("README.md");
    private static final Path TESTS = Path.of("src/test/java");
    private static final Path COMMAND = Path.of(".ci/run");

    private static final Pattern STATEMENT = Pattern.compile(
            "(?:\\w+ (?<name>\\w+) = )?(?<call>.*);(?: +// (?<verb>\\w+) (?<due>[-\\w]+).*)?");
    private static final Pattern CALL = Pattern.compile("`([a-z]\\w*)\\(([^`]*)\\)`");
    private static final Pattern TEST_ROW = Pattern.compile("\\| `(\\w+Test)` .*");

    public static void main(String[] args) throws IOException, InterruptedException {
        List<String> lines = Files.readAllLines(README);
        runExamples(lines);
        callsAreThoseOfTheClass(lines);
        testsAreThoseOfTheProject(lines);
        commandRunsTheTests(lines);
        Check.end();
    }

    // ---- the examples

    private static void runExamples(List<String> lines) throws IOException, InterruptedException {
        Path folder = Files.createTempDirectory("readme");
        try {
            Path file = folder.resolve("Examples.java");
            Files.write(file, program(codeOf(lines)));
            String classes = System.getProperty("java.class.path") + File.pathSeparator + folder;
            Check.due("javac of the examples", 0, run("javac", "-cp", classes, "-d", "" + folder, "" + file));
            Check.due("java of the examples", 0, run("java", "-cp", classes, "Examples"));
        } finally {
            delete(folder);
        }
    }

    private static int run(String... command) throws IOException, InterruptedException {
        return new ProcessBuilder(command).inheritIO().start().waitFor();
    }

    private static void delete(Path folder) throws IOException {
        try (Stream<Path> files = Files.walk(folder)) {
            for (Path file : files.sorted(Comparator.reverseOrder()).collect(Collectors.toList())) {
                Files.delete(file);
            }
        }
    }

    private static List<String> codeOf(List<String> lines) {
        List<String> code = new ArrayList<>();
        boolean inside = false;
        for (String line : lines) {
            if (line.startsWith("```")) {
                inside = line.equals("```java");
            } else if (inside) {
                code.add(line);
            }
        }
        Check.due("examples are there", true, code.size() > 40);
        return code;
    }

    /** Every example as it stands, and behind it a look at what it says that the call answers. */
    private static List<String> program(List<String> code) {
        List<String> text = new ArrayList<>();
        text.add("public final class Examples {");
        text.add("    public static void main(String[] args) {");
        for (String line : code) {
            text.add(tested(line));
        }
        text.add("        Check.end();");
        text.add("    }");
        text.add("}");
        return text;
    }

    private static String tested(String line) {
        Matcher found = STATEMENT.matcher(line);
        if (!found.matches()) {
            Check.report("the example '" + line + "' is no statement");
            return "";
        }
        String name = found.group("name");
        String call = found.group("call");
        String due = found.group("due");
        if ("throws".equals(found.group("verb"))) {
            return "Check.same(\"" + call + "\", \"throws " + due + "\", Check.outcome(() -> " + call + "));";
        }
        if ("answers".equals(found.group("verb"))) {
            String ahead = name == null ? "" : line + "\n";
            return ahead + "Check.due(\"" + call + "\", " + due + ", " + (name == null ? call : name) + ");";
        }
        return line;
    }

    // ---- the tables

    private static void callsAreThoseOfTheClass(List<String> lines) {
        Set<String> told = new TreeSet<>();
        for (String line : lines) {
            Matcher found = CALL.matcher(line);
            while (line.startsWith("|") && found.find()) {
                int count = found.group(2).isEmpty() ? 0 : found.group(2).split(", ").length;
                told.add(found.group(1) + " of " + count);
            }
        }
        Set<String> there = new TreeSet<>();
        for (Method m : HeatTrain.class.getDeclaredMethods()) {
            if (Modifier.isPublic(m.getModifiers())) {
                there.add(m.getName() + " of " + m.getParameterCount());
            }
        }
        Check.same("the calls, with how many arguments", there.toString(), told.toString());
    }

    private static void testsAreThoseOfTheProject(List<String> lines) throws IOException {
        Set<String> told = new TreeSet<>();
        for (String line : lines) {
            Matcher found = TEST_ROW.matcher(line);
            if (found.matches()) {
                told.add(found.group(1));
            }
        }
        Check.same("the tests", testFiles().toString(), told.toString());
    }

    private static Set<String> testFiles() throws IOException {
        try (Stream<Path> files = Files.list(TESTS)) {
            return files.map(file -> file.getFileName().toString())
                    .filter(name -> name.endsWith("Test.java"))
                    .map(name -> name.replace(".java", ""))
                    .collect(Collectors.toCollection(TreeSet::new));
        }
    }

    private static void commandRunsTheTests(List<String> lines) {
        Check.due("the command is named", true, lines.contains("    " + COMMAND));
        Check.due("the command is a script that runs", true, Files.isExecutable(COMMAND));
    }
}

import java.io.ByteArrayOutputStream;
import java.io.IOException;
import java.io.PrintStream;
import java.lang.reflect.Field;
import java.lang.reflect.Modifier;
import java.net.URL;
import java.net.URLClassLoader;
import java.nio.charset.StandardCharsets;
import java.nio.file.DirectoryStream;
import java.nio.file.Files;
import java.nio.file.Path;
import java.util.ArrayList;
import java.util.Arrays;
import java.util.List;
import java.util.Map;
import java.util.TreeMap;
import java.util.TreeSet;
import java.util.regex.Matcher;
import java.util.regex.Pattern;
import javax.tools.JavaCompiler;
import javax.tools.ToolProvider;

/** What README.md says is compared with the document, the class, the tests and what its program prints. */
public final class ReadmeTest {
    private static final Due due = new Due("ReadmeTest");
    private static final Pattern CONSTANT = Pattern.compile("\\b(BAD|STATE|FULL|CLASH|RIGHT|DARK|NONE)\\b");

    private static String readme;
    private static String document;

    public static void main(String[] args) throws Exception {
        readme = Files.readString(Path.of("README.md"));
        document = Files.readString(Path.of("../shared/DOC.md"));
        eachCallHasItsRow();
        errorsAreThoseOfTheDocument();
        rangesAreThoseOfTheDocument();
        constants();
        actsAreThoseOfTheDocument();
        testsAreThoseThatThereAre();
        theProgramPrintsWhatItSays();
        due.end();
    }

    private static void same(String what, Object got, Object want) {
        due.holds(what + " are " + want + ", not " + got, want.equals(got));
    }

    private static List<String> found(String pattern, String text) {
        List<String> found = new ArrayList<>();
        Matcher matcher = Pattern.compile(pattern, Pattern.MULTILINE).matcher(text);
        while (matcher.find()) {
            found.add(matcher.group(1));
        }
        return found;
    }

    /** The cells of the rows of the table of calls, by the names of the calls. */
    private static Map<String, String[]> rows() {
        Map<String, String[]> rows = new TreeMap<>();
        for (String row : found("^\\| (`\\w+\\(.*)\\|$", readme)) {
            String[] cells = row.split("\\|", -1);
            due.is("cells of " + row, cells.length, 4);
            rows.put(row.substring(1, row.indexOf('(')), Arrays.copyOf(cells, 4));
        }
        return rows;
    }

    /** The sections of the promises 2 to 23, by the names of the calls. */
    private static Map<String, String> promises() {
        Map<String, String> promises = new TreeMap<>();
        for (String section : document.split("\n## ")) {
            Matcher head = Pattern.compile("^Promise \\d+: (\\w+)\n").matcher(section);
            if (head.find()) {
                promises.put(head.group(1), section);
            }
        }
        due.is("promises with a call", promises.size(), 22);
        return promises;
    }

    private static void eachCallHasItsRow() {
        List<String> calls = found("^    public (?:int|long) (\\w+\\(.*\\));$", document);
        due.is("calls of the document", calls.size(), 22);
        same("the calls", found("^\\| `(\\w+\\([^)]*\\))` \\|", readme), calls);
    }

    /** In the order in which they are listed, as the first is answered. */
    private static void errorsAreThoseOfTheDocument() {
        Map<String, String[]> rows = rows();
        for (Map.Entry<String, String> promise : promises().entrySet()) {
            String returns = String.join(" ", found("^(Returns.*)$", promise.getValue()));
            String[] cells = rows.get(promise.getKey());
            if (cells != null) {
                same("the errors of " + promise.getKey(), found(CONSTANT.pattern(), cells[3]),
                        found(CONSTANT.pattern(), returns));
            }
        }
    }

    /** Each "from n to m" of the document's arguments, as "name: range" or in the words of the row. */
    private static void rangesAreThoseOfTheDocument() {
        Map<String, String[]> rows = rows();
        int ranges = 0;
        for (Map.Entry<String, String> promise : promises().entrySet()) {
            Matcher argument = Pattern.compile("^- `(\\w+)`: (?:[a-z ]*, )?((?:\\d+|from \\+ 1)"
                    + " to (?:from \\+ )?\\d+(?:, at most \\d+)?)", Pattern.MULTILINE).matcher(promise.getValue());
            while (argument.find() && rows.containsKey(promise.getKey())) {
                String takes = rows.get(promise.getKey())[1];
                String range = argument.group(1) + ": " + argument.group(2);
                // The four kinds are told one by one.
                boolean said = takes.matches(".*\\b" + Pattern.quote(range) + "\\b.*")
                        || takes.contains("kind: 0 recorded, 1 live, 2 filler, 3 spot") && range.equals("kind: 0 to 3");
                due.holds(promise.getKey() + " takes " + range, said);
                ranges++;
            }
        }
        due.is("ranges", ranges, 22);
    }

    private static void constants() throws IllegalAccessException {
        Map<String, String> numbers = new TreeMap<>();
        for (Field field : RadioWeek.class.getFields()) {
            if (Modifier.isStatic(field.getModifiers())) {
                numbers.put(field.getName(), String.valueOf(field.getInt(null)));
            }
        }
        Map<String, String> said = new TreeMap<>();
        for (String row : found("^\\| `([A-Z]+` \\| -\\d+) \\|", readme)) {
            said.put(row.substring(0, row.indexOf('`')), row.substring(row.indexOf('-')));
        }
        same("the constants", said, numbers);
    }

    private static void actsAreThoseOfTheDocument() {
        TreeSet<String> acts = new TreeSet<>();
        for (Map.Entry<String, String> promise : promises().entrySet()) {
            if (promise.getValue().contains("This is an act.")) {
                acts.add(promise.getKey());
            }
        }
        String said = String.join("", found("are acts: ([^.]*)\\.", readme));
        same("the acts", new TreeSet<>(found("`(\\w+)`", said)), acts);
    }

    private static void testsAreThoseThatThereAre() throws IOException {
        TreeSet<String> there = new TreeSet<>();
        try (DirectoryStream<Path> files = Files.newDirectoryStream(Path.of("src/test/java"), "*Test.java")) {
            for (Path file : files) {
                there.add(file.getFileName().toString().replace(".java", ""));
            }
        }
        same("the tests", new TreeSet<>(found("`(\\w+Test)`", readme)), there);
        due.holds(".ci/run can be run", Files.isExecutable(Path.of(".ci/run")));
    }

    private static String block(String language) {
        String begin = "```" + language + "\n";
        int from = readme.indexOf(begin);
        int to = from < 0 ? -1 : readme.indexOf("```", from + begin.length());
        due.holds("there is a block of " + language, to >= 0);
        return to < 0 ? "" : readme.substring(from + begin.length(), to);
    }

    private static void theProgramPrintsWhatItSays() throws Exception {
        Path folder = Files.createTempDirectory("readme");
        try {
            Path source = folder.resolve("Example.java");
            Files.writeString(source, block("java"));
            JavaCompiler compiler = ToolProvider.getSystemJavaCompiler();
            String classes = System.getProperty("java.class.path");
            int compiled = compiler.run(null, null, null, "-cp", classes, "-d", folder.toString(), source.toString());
            due.is("compiling the program", compiled, 0);
            if (compiled == 0) {
                String printed = printedBy("Example", folder);
                due.holds("the program prints what is said, not\n" + printed, printed.equals(block("text")));
            }
        } finally {
            emptyAndDelete(folder);
        }
    }

    private static String printedBy(String program, Path folder) throws Exception {
        PrintStream screen = System.out;
        ByteArrayOutputStream printed = new ByteArrayOutputStream();
        try (URLClassLoader loader = new URLClassLoader(new URL[] {folder.toUri().toURL()})) {
            System.setOut(new PrintStream(printed, true, StandardCharsets.UTF_8));
            loader.loadClass(program).getMethod("main", String[].class).invoke(null, (Object) new String[0]);
        } finally {
            System.setOut(screen);
        }
        return printed.toString(StandardCharsets.UTF_8);
    }

    private static void emptyAndDelete(Path folder) throws IOException {
        try (DirectoryStream<Path> files = Files.newDirectoryStream(folder)) {
            for (Path file : files) {
                Files.delete(file);
            }
        }
        Files.delete(folder);
    }
}

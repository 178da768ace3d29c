import java.io.File;
import java.io.IOException;
import java.nio.file.Files;
import java.nio.file.Path;
import java.util.ArrayList;
import java.util.List;
import java.util.Set;
import java.util.TreeSet;
import java.util.regex.Matcher;
import java.util.regex.Pattern;
import java.util.stream.Stream;

/** README.md is held against what is so: its example is compiled and run, its tables against the document's face. */
public final class ReadmeTest {
    private static final Path README = Path.of("README.md");
    private static final Path DOCUMENT = Path.of("../shared/DOC.md");
    private static final Pattern THROWN = Pattern.compile("(NoSuchElement|IllegalArgument|IllegalState|IndexOutOfBounds)(?::|Exception)");

    public static void main(String[] args) throws Exception {
        String readme = Files.readString(README);
        example(blockOf(readme));
        tables(readme, Files.readString(DOCUMENT));
        said(readme);
        tests(readme);
        Check.end();
    }

    private static String blockOf(String readme) {
        Matcher m = Pattern.compile("```java\\n(.*?)```", Pattern.DOTALL).matcher(readme);
        Check.due("README has an example", m.find(), true);
        return m.group(1);
    }

    /** What the example prints, line by line, against the number behind each print(..). */
    private static void example(String program) throws Exception {
        List<String> due = new ArrayList<>();
        Matcher m = Pattern.compile("^ +print\\(.*\\); +// (-?\\d+)", Pattern.MULTILINE).matcher(program);
        while (m.find()) {
            due.add(m.group(1));
        }
        Matcher printed = Pattern.compile("^ +print\\(", Pattern.MULTILINE).matcher(program);
        Check.due("each answer printed stands behind it", printed.results().count(), due.size());
        List<String> got = outputOf(program);
        Check.due("answers printed", got.size(), due.size());
        for (int i = 0; i < Math.min(got.size(), due.size()); i++) {
            Check.due("the example's answer " + i + " (" + got.get(i) + ") is " + due.get(i), got.get(i).equals(due.get(i)), true);
        }
    }

    private static List<String> outputOf(String program) throws IOException, InterruptedException {
        Path folder = Files.createTempDirectory("example");
        try {
            Path source = folder.resolve("Example.java");
            Files.writeString(source, program);
            String classes = System.getProperty("java.class.path");
            ran("javac", "-cp", classes, "-d", folder.toString(), source.toString());
            return ran("java", "-cp", classes + File.pathSeparator + folder, "Example");
        } finally {
            sweep(folder);
        }
    }

    private static List<String> ran(String... command) throws IOException, InterruptedException {
        Process process = new ProcessBuilder(command).redirectError(ProcessBuilder.Redirect.INHERIT).start();
        String told = new String(process.getInputStream().readAllBytes());
        Check.due(command[0] + " ends with", process.waitFor(), 0);
        return told.lines().toList();
    }

    private static void sweep(Path folder) throws IOException {
        try (Stream<Path> files = Files.list(folder)) {
            for (Path file : files.toList()) {
                Files.delete(file);
            }
        }
        Files.delete(folder);
    }

    /** Each method of the document's face has one row, with its parameters' names and the exceptions that it names. */
    private static void tables(String readme, String document) {
        Pattern line = Pattern.compile("^    public (?:int|long|boolean|void) (\\w+)\\((.*)\\)( throws .*)?;$", Pattern.MULTILINE);
        Matcher m = line.matcher(document);
        int methods = 0;
        while (m.find()) {
            methods++;
            String call = m.group(1) + "(" + m.group(2).replaceAll("(int|long) ", "") + ")";
            Set<String> due = thrown(m.group(3) == null ? "" : m.group(3));
            Matcher row = Pattern.compile("^\\| `" + Pattern.quote(call) + "` \\| ([^|]+) \\| ([^|]+) \\|$", Pattern.MULTILINE).matcher(readme);
            boolean stands = row.find();
            Check.due("README has a row of " + call, stands, true);
            if (stands) {
                Set<String> got = thrown(row.group(2));
                Check.due(call + " throws " + got + ", due is " + due, got.equals(due), true);
                Check.due(call + " throws nothing", row.group(2).equals("nothing"), due.isEmpty());
                Check.due(call + " has one row", row.find(), false);
            }
        }
        Check.due("methods of the document", methods, 44);
        Check.due("rows of calls", Pattern.compile("^\\| `\\w+\\(", Pattern.MULTILINE).matcher(readme).results().count(), methods);
    }

    private static Set<String> thrown(String text) {
        Set<String> names = new TreeSet<>();
        Matcher m = THROWN.matcher(text);
        while (m.find()) {
            names.add(m.group(1));
        }
        return names;
    }

    private static void said(String readme) {
        for (String must : List.of("new SlotCoins()", "512 calls", "A call that throws changes nothing", "`NONE` (-1)", ".ci/run",
            "../shared/DOC.md", "../shared/LANGUAGE.md")) {
            Check.due("README says " + must, readme.contains(must), true);
        }
        Check.due("NONE", SlotCoins.NONE, -1);
    }

    private static void tests(String readme) throws IOException {
        Set<String> stand = new TreeSet<>();
        try (Stream<Path> files = Files.list(Path.of("src/test/java"))) {
            files.map(f -> f.getFileName().toString()).filter(f -> f.endsWith(".java"))
                .forEach(f -> stand.add(f.replace(".java", "")));
        }
        for (String test : stand) {
            Check.due("README names " + test, readme.contains("`" + test + "`"), true);
        }
        Matcher named = Pattern.compile("`(\\w+Test)`").matcher(readme);
        while (named.find()) {
            Check.due(named.group(1) + " stands", stand.contains(named.group(1)), true);
        }
        for (Class<?> inside : SlotCoins.class.getDeclaredClasses()) {
            Check.due("README names " + inside.getSimpleName(), readme.contains("| `" + inside.getSimpleName() + "` |"), true);
        }
    }
}

import java.io.IOException;
import java.nio.file.Files;
import java.nio.file.Path;
import java.util.ArrayList;
import java.util.List;
import java.util.Map;
import java.util.TreeMap;
import java.util.regex.Matcher;
import java.util.regex.Pattern;
import java.util.stream.Stream;

/**
 * The tests of boundary cases name their promise and its sentence in a remark: here each remark is held against
 * the document, and each sentence of the document against the remarks, so that none is forgotten.
 */
public final class RemarksTest {
    private static final Path DOCUMENT = Path.of("../shared/DOC.md");
    private static final Path TESTS = Path.of("src/test/java");
    private static final Pattern REMARK = Pattern.compile(
        "/\\*\\* Promise (\\d+): (\"[^\"]+\"(?: and \"[^\"]+\")*) \\*/\\s+private static void (\\w+)\\(\\)");

    private final Map<Integer, String> promises = new TreeMap<>();
    private final Map<Integer, List<String>> quoted = new TreeMap<>();
    private final List<String> allQuoted = new ArrayList<>();
    private String terms = "";

    public static void main(String[] args) throws IOException {
        RemarksTest test = new RemarksTest();
        test.readDocument(Files.readString(DOCUMENT));
        try (Stream<Path> files = Files.list(TESTS)) {
            for (Path file : files.filter(f -> f.getFileName().toString().startsWith("Edges")).sorted().toList()) {
                test.readRemarks(file.getFileName().toString(), Files.readString(file));
            }
        }
        test.sentencesOfPromises();
        test.sentencesOfTerms();
        Check.end();
    }

    private static String inOneLine(String text) {
        return text.replaceAll("```\\w*", " ").replaceAll("\\s+", " ").trim();
    }

    private void readDocument(String document) {
        Matcher m = Pattern.compile("## Promise (\\d+): .*?\\n\\n`[^`]*`: (.*?)\\n\\n", Pattern.DOTALL).matcher(document);
        while (m.find()) {
            promises.put(Integer.parseInt(m.group(1)), inOneLine(m.group(2)));
        }
        int from = document.indexOf("## Terms");
        int to = document.indexOf("The constants:");
        Check.due("promises", promises.size(), 45);
        Check.due("terms", from >= 0 && to > from, true);
        terms = inOneLine(document.substring(from + "## Terms".length(), to));
    }

    private void readRemarks(String file, String source) {
        Matcher m = REMARK.matcher(source);
        int found = 0;
        while (m.find()) {
            found++;
            int promise = Integer.parseInt(m.group(1));
            for (String part : m.group(2).split("\" and \"")) {
                String sentence = inOneLine(part.replace("\"", ""));
                String own = promises.getOrDefault(promise, "");
                Check.due(file + ": " + sentence + " stands in the document", own.contains(sentence) || terms.contains(sentence), true);
                quoted.computeIfAbsent(promise, p -> new ArrayList<>()).add(sentence);
                allQuoted.add(sentence);
            }
            Check.due(file + ": " + m.group(3) + " is run", source.contains("        " + m.group(3) + "();\n"), true);
        }
        Check.due(file + " has remarks", found > 0, true);
    }

    private static boolean names(List<String> remarks, String piece) {
        return remarks.stream().anyMatch(r -> r.contains(piece) || piece.contains(r));
    }

    /** What stands between full stops and semicolons is a sentence here; what a call throws is a part of its own. */
    private static List<String> sentences(String text) {
        List<String> all = new ArrayList<>();
        for (String piece : text.split("(?<=[.;])\\s+")) {
            String bare = piece.replaceAll("[.;:]+$", "").trim();
            if (bare.length() > 3 && !bare.startsWith("====")) {
                all.add(bare);
            }
        }
        return all;
    }

    private void sentencesOfPromises() {
        promises.forEach((number, text) -> {
            for (String sentence : sentences(text)) {
                boolean own = names(quoted.getOrDefault(number, List.of()), sentence);
                Check.due("promise " + number + ", " + sentence + ": has a test", own, true);
            }
        });
    }

    private void sentencesOfTerms() {
        for (String sentence : sentences(terms)) {
            Check.due("terms, " + sentence + ": has a test", names(allQuoted, sentence), true);
        }
    }
}

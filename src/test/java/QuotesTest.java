import java.io.IOException;
import java.nio.file.DirectoryStream;
import java.nio.file.Files;
import java.nio.file.Path;
import java.util.ArrayList;
import java.util.LinkedHashMap;
import java.util.List;
import java.util.Map;
import java.util.regex.Matcher;
import java.util.regex.Pattern;

/**
 * What the tests quote beside their checks stands in the document, word for word, and each sentence of the document
 * that asks something of the class is quoted. It must be run in the project's folder.
 */
public final class QuotesTest {
    private static final Path DOCUMENT = Path.of("../shared/DOC.md");
    private static final Path TESTS = Path.of("src/test/java");

    private static final String TEXT = "\"((?:[^\"\\\\]|\\\\.)*)\"";
    private static final Pattern QUOTE = Pattern.compile(
            "check\\.says\\(" + TEXT + ",\\s*(" + TEXT + "(?:\\s*\\+\\s*" + TEXT + ")*)\\)");
    private static final Pattern SIGNATURE = Pattern.compile("^`[^`]*\\([^`]*`: ");

    /** What nothing can be asked about, by its beginning. */
    private static final String[] NO_CLAIMS = {"# WhisperedPots", "Whispered teapots that go", "Pots, whispers",
        "Pouring, drinking", "Ahead of the calls"};

    private static final Check check = new Check("QuotesTest");

    /** The document's sections by their titles, those of the promises by "Promise" and the number alone. */
    private static Map<String, List<String>> sentences() throws IOException {
        Map<String, List<String>> sections = new LinkedHashMap<>();
        List<String> section = new ArrayList<>();
        boolean code = false;
        for (String line : Files.readAllLines(DOCUMENT)) {
            code ^= line.startsWith("```");
            if (code || line.isBlank() || line.startsWith("```")) {
                continue;
            }
            if (line.startsWith("##")) {
                section = new ArrayList<>();
                sections.put(line.replaceAll("^#+ ", "").replaceAll(":.*", ""), section);
                continue;
            }
            String plain = SIGNATURE.matcher(line.replaceAll("^- ", "")).replaceFirst("");
            for (String sentence : plain.split("(?<=\\.) ")) {
                section.add(sentence);
            }
        }
        return sections;
    }

    private static Map<String, List<String>> quotes() throws IOException {
        Map<String, List<String>> quotes = new LinkedHashMap<>();
        try (DirectoryStream<Path> files = Files.newDirectoryStream(TESTS, "*Test.java")) {
            for (Path file : files) {
                Matcher matcher = QUOTE.matcher(Files.readString(file));
                while (matcher.find()) {
                    quotes.computeIfAbsent(matcher.group(1), key -> new ArrayList<>()).add(joined(matcher.group(2)));
                }
            }
        }
        return quotes;
    }

    private static String joined(String texts) {
        StringBuilder words = new StringBuilder();
        Matcher matcher = Pattern.compile(TEXT).matcher(texts);
        while (matcher.find()) {
            words.append(matcher.group(1).replace("\\\"", "\""));
        }
        return words.toString();
    }

    private static boolean asks(String sentence) {
        for (String beginning : NO_CLAIMS) {
            if (sentence.startsWith(beginning)) {
                return false;
            }
        }
        return true;
    }

    private static boolean quoted(String sentence, List<String> quotes) {
        for (String quote : quotes) {
            if (quote.contains(sentence)) {
                return true;
            }
        }
        return false;
    }

    public static void main(String[] args) throws IOException {
        Map<String, List<String>> sentences = sentences();
        Map<String, List<String>> quotes = quotes();
        for (Map.Entry<String, List<String>> section : quotes.entrySet()) {
            String text = String.join(" ", sentences.getOrDefault(section.getKey(), List.of()));
            for (String quote : section.getValue()) {
                check.same("in '" + section.getKey() + "': " + quote, text.contains(quote) ? 1 : 0, 1);
            }
        }
        sentences.remove("Not promised");
        check.same("sections", sentences.size() > 26 ? 1 : 0, 1);
        for (Map.Entry<String, List<String>> section : sentences.entrySet()) {
            List<String> known = quotes.getOrDefault(section.getKey(), List.of());
            for (String sentence : section.getValue()) {
                if (asks(sentence)) {
                    check.same("a test for '" + section.getKey() + "': " + sentence,
                            quoted(sentence, known) ? 1 : 0, 1);
                }
            }
        }
        check.end();
    }
}

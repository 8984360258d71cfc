import java.io.IOException;
import java.nio.file.DirectoryStream;
import java.nio.file.Files;
import java.nio.file.Path;
import java.util.LinkedHashMap;
import java.util.Map;
import java.util.regex.Matcher;
import java.util.regex.Pattern;

/**
 * The tests of edges name the sentences that they ask: each stands in the document, under its number; each
 * term and promise is asked; and so is each number by which a promise refuses.
 */
public final class QuoteTest {
    private static final Told TOLD = new Told("QuoteTest");
    private static final Path DOCUMENT = Path.of("../shared/DOC.md");
    private static final Path TESTS = Path.of("src/test/java");
    private static final Pattern SAYS = Pattern.compile(
        "TOLD\\.says\\(\"([^\"]*)\",((?:\\s*\\+?\\s*\"(?:[^\"\\\\]|\\\\.)*\")+)\\)");
    private static final Pattern REFUSAL = Pattern.compile("(?<![\\w.])-\\d[\\d,]*|NONE");

    public static void main(String[] args) throws IOException {
        if (!Files.exists(DOCUMENT)) {
            System.out.println("QuoteTest: " + DOCUMENT + " is not here, so no sentence is looked up");
            return;
        }
        Map<String, String> sections = sections(plain(Files.readString(DOCUMENT)));
        TOLD.due("terms and promises", sections.size(), 9 + 73);
        Map<String, String> quotes = quotes(sections);
        for (Map.Entry<String, String> section : sections.entrySet()) {
            String asked = quotes.getOrDefault(section.getKey(), "");
            TOLD.due(section.getKey() + " is asked", asked.isEmpty() ? 0 : 1, 1);
            if (section.getKey().startsWith("P")) {
                Matcher refusal = REFUSAL.matcher(section.getValue());
                while (refusal.find()) {
                    String number = refusal.group().replaceAll(",$", "");
                    TOLD.due(section.getKey() + " by " + number + " is asked", asked.contains(number) ? 1 : 0, 1);
                }
            }
        }
        TOLD.close();
    }

    /** Breaks of lines are blanks. */
    private static String plain(String text) {
        return text.replaceAll("\\s+", " ");
    }

    private static Map<String, String> sections(String document) {
        Map<String, String> sections = new LinkedHashMap<>();
        String[] terms = {"I", "II", "III", "IV", "V", "VI", "VII", "VIII", "IX"};
        int at = document.indexOf("## Terms");
        for (int i = 0; i < terms.length; i++) {
            at = document.indexOf(" " + terms[i] + ". ", at);
            String next = i + 1 < terms.length ? " " + terms[i + 1] + ". " : "## Promise 1:";
            sections.put(terms[i], document.substring(at, document.indexOf(next, at + 1)));
        }
        for (int promise = 1; promise <= 73; promise++) {
            at = document.indexOf("## Promise " + promise + ":");
            sections.put("P" + promise, document.substring(at, document.indexOf("## ", at + 3)));
        }
        return sections;
    }

    /** All quotes of a section, one behind another. */
    private static Map<String, String> quotes(Map<String, String> sections) throws IOException {
        Map<String, String> quotes = new LinkedHashMap<>();
        try (DirectoryStream<Path> files = Files.newDirectoryStream(TESTS, "*EdgeTest.java")) {
            for (Path file : files) {
                String source = Files.readString(file);
                Matcher says = SAYS.matcher(source);
                TOLD.due(file.getFileName() + ": sentences that can be read", says.results().count(),
                    source.split("TOLD\\.says\\(", -1).length - 1);
                says.reset();
                while (says.find()) {
                    String where = says.group(1);
                    String words = says.group(2).replaceAll("\"\\s*\\+\\s*\"", "").replaceAll("^\\s*\"|\"\\s*$", "");
                    TOLD.due(file.getFileName() + ": " + where + " says " + words,
                        sections.getOrDefault(where, "").contains(words) ? 1 : 0, 1);
                    quotes.merge(where, words, (old, more) -> old + " .. " + more);
                }
            }
        }
        return quotes;
    }
}

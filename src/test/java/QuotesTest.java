import java.io.IOException;
import java.nio.charset.StandardCharsets;
import java.nio.file.Files;
import java.nio.file.Path;
import java.util.ArrayList;
import java.util.List;
import java.util.Map;
import java.util.TreeMap;
import java.util.regex.Matcher;
import java.util.regex.Pattern;
import java.util.stream.Stream;

/**
 * Every sentence of the document's terms and promises has a test: the words that the tests quote by says() and term()
 * stand in the document, and together they leave none of its words out.
 */
public final class QuotesTest extends Kit {
    private static final Path DOCUMENT = Path.of("../shared/DOC.md");
    private static final Path TESTS = Path.of("src/test/java");
    private static final Pattern QUOTE = Pattern.compile(
            "(?:says\\((\\d+)|term\\(\"([IV]+)\"),\\s*\"((?:[^\"\\\\]|\\\\.)*)\"\\);");

    public static void main(String[] args) throws IOException {
        if (!Files.exists(DOCUMENT)) {
            System.out.println("the document is not here: its words are not compared");
            finish();
            return;
        }
        Map<String, String> sections = sections(Files.readString(DOCUMENT, StandardCharsets.UTF_8));
        due("promises and terms", sections.size(), 72 + 7);
        Map<String, boolean[]> quoted = new TreeMap<>();
        for (Map.Entry<String, String> section : sections.entrySet()) {
            quoted.put(section.getKey(), new boolean[section.getValue().length()]);
        }
        for (String[] quote : quotes()) {
            String text = sections.get(quote[0]);
            int at = text == null ? -1 : text.indexOf(quote[1]);
            due(quote[0] + " says \"" + quote[1] + "\"", at >= 0 ? 1 : 0, 1);
            for (int i = Math.max(at, 0); at >= 0 && i < at + quote[1].length(); i++) {
                quoted.get(quote[0])[i] = true;
            }
        }
        for (Map.Entry<String, String> section : sections.entrySet()) {
            String left = left(section.getValue(), quoted.get(section.getKey()));
            due(section.getKey() + " has no test of \"" + left + "\"", left.length(), 0);
        }
        finish();
    }

    /** The texts of the promises, by "1" to "72", and of the terms, by "I" to "VII", with single blanks. */
    private static Map<String, String> sections(String document) {
        Map<String, String> found = new TreeMap<>();
        Matcher promise = Pattern.compile("(?m)^## Promise (\\d+): [^\n]+\\s+`[^`]*`: (.*)$").matcher(document);
        while (promise.find()) {
            found.put(promise.group(1), promise.group(2).trim());
        }
        int from = document.indexOf("## Terms") + "## Terms".length();
        String terms = document.substring(from, document.indexOf("## Promise 1:")).replaceAll("```(text)?", "");
        Matcher term = Pattern.compile("(?ms)^([IV]+)\\. (.*?)(?=^[IV]+\\. |\\z)").matcher(terms);
        while (term.find()) {
            found.put(term.group(1), term.group(2).trim().replaceAll("\\s+", " "));
        }
        return found;
    }

    private static List<String[]> quotes() throws IOException {
        List<String[]> found = new ArrayList<>();
        try (Stream<Path> files = Files.list(TESTS)) {
            for (Path file : files.sorted().toList()) {
                Matcher matcher = QUOTE.matcher(Files.readString(file, StandardCharsets.UTF_8));
                while (matcher.find()) {
                    String where = matcher.group(1) != null ? matcher.group(1) : matcher.group(2);
                    found.add(new String[] {where, matcher.group(3)});
                }
            }
        }
        return found;
    }

    /** What no test quotes, blanks and signs between the sentences aside. */
    private static String left(String text, boolean[] quoted) {
        StringBuilder left = new StringBuilder();
        for (int i = 0; i < text.length(); i++) {
            if (!quoted[i] && Character.isLetterOrDigit(text.charAt(i))) {
                left.append(text.charAt(i));
            }
        }
        return left.toString();
    }
}

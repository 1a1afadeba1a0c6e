import java.io.IOException;
import java.nio.file.DirectoryStream;
import java.nio.file.Files;
import java.nio.file.Path;
import java.util.Set;
import java.util.TreeSet;
import java.util.regex.Matcher;
import java.util.regex.Pattern;

/**
 * The sentences that tests say they are due by stand in the document, word for word, and each of its
 * sentences on an exception is among them. Run from the project's folder.
 */
public final class QuotesTest {
    private static final Path DOCUMENT = Path.of("../shared/DOC.md");
    private static final Path TESTS = Path.of("src/test/java");

    /** The sentence is the first text in such a call, and may go on in a second line. */
    private static final Pattern QUOTE = Pattern.compile("(?:sentence|valuesOf)\\(\"([^\"]*)\"(?:\\s*\\+ \"([^\"]*)\")?");

    public static void main(String[] args) throws IOException {
        if (!Files.exists(DOCUMENT)) {
            System.out.println("no document here to compare with");
            return;
        }
        Set<String> quotes = quotes();
        String document = String.join(" ", Files.readString(DOCUMENT).split("\\s+"));
        for (String quote : quotes) {
            Due.is("stands in the document: " + quote, document.contains(quote), true);
        }
        for (String line : Files.readAllLines(DOCUMENT)) {
            if (line.startsWith("Throws ")) {
                Due.is("has a test: " + line, isQuoted(line, quotes), true);
            }
        }
        Due.end();
    }

    private static Set<String> quotes() throws IOException {
        Set<String> quotes = new TreeSet<>();
        try (DirectoryStream<Path> tests = Files.newDirectoryStream(TESTS, "*EdgesTest.java")) {
            for (Path test : tests) {
                addQuotes(quotes, test);
            }
        }
        addQuotes(quotes, TESTS.resolve("RefusalsTest.java"));
        addQuotes(quotes, TESTS.resolve("LongestTest.java"));
        return quotes;
    }

    private static void addQuotes(Set<String> quotes, Path test) throws IOException {
        Matcher matcher = QUOTE.matcher(Files.readString(test));
        while (matcher.find()) {
            quotes.add(matcher.group(1) + (matcher.group(2) == null ? "" : matcher.group(2)));
        }
    }

    private static boolean isQuoted(String line, Set<String> quotes) {
        for (String quote : quotes) {
            if (line.endsWith(quote)) {
                return true;
            }
        }
        return false;
    }
}

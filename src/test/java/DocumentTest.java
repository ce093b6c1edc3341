import java.io.IOException;
import java.nio.file.DirectoryStream;
import java.nio.file.Files;
import java.nio.file.Path;
import java.util.Arrays;
import java.util.regex.Matcher;
import java.util.regex.Pattern;

/**
 * No sentence of the document is left without a test: the tests quote the words that their checks belong to
 * ({@link Checks#sentence}); each quote must stand in the document as it is quoted, and the quotes together must
 * tell every word of 'What it is', of 'Terms' and of each promise.
 */
public final class DocumentTest {
    private static final Path DOCUMENT = Path.of("../shared/DOC.md");
    private static final Path TESTS = Path.of("src/test/java");
    private static final int PROMISES = 20;
    private static final String LEFT_OUT = "[..]";
    private static final Pattern QUOTE =
            Pattern.compile("\\.sentence\\(\\s*(?:(\\d+)\\s*,\\s*)?((?:\"[^\"]*\"\\s*\\+?\\s*)+)\\);");
    private static final Pattern LITERAL = Pattern.compile("\"([^\"]*)\"");
    private static final Checks c = new Checks();

    private final String name;
    private final String text;
    private final boolean[] told;

    private DocumentTest(String name, String text) {
        this.name = name;
        this.text = text.replaceAll("\\s+", " ");
        told = new boolean[this.text.length()];
    }

    public static void main(String[] args) throws IOException {
        c.promise(1, "and all the others: the document's sentences");
        DocumentTest[] parts = parts(Files.readString(DOCUMENT));
        try (DirectoryStream<Path> tests = Files.newDirectoryStream(TESTS, "*Test.java")) {
            for (Path test : tests) {
                tellQuotes(test, parts);
            }
        }
        for (DocumentTest part : parts) {
            part.checkAllTold();
        }
        c.end();
    }

    /** At 0 what stands before the promises, at 1 to 20 each promise without its heading and its signature. */
    private static DocumentTest[] parts(String document) {
        DocumentTest[] parts = new DocumentTest[PROMISES + 1];
        String terms = section(document, "## What it is\n") + section(document, "## Terms\n");
        parts[0] = new DocumentTest("Terms", terms.replaceAll("```\\w*", ""));
        for (int n = 1; n <= PROMISES; n++) {
            String promise = section(document, "## Promise " + n + ":");
            parts[n] = new DocumentTest("Promise " + n, promise.replaceFirst("(?s)^[^`]*`[^`]*`:", ""));
        }
        c.isTrue("there is no promise behind " + PROMISES, !document.contains("## Promise " + (PROMISES + 1)));
        return parts;
    }

    private static String section(String document, String heading) {
        int begin = document.indexOf(heading);
        c.isTrue("the document has " + heading.trim(), begin >= 0);
        int end = document.indexOf("\n## ", begin);
        return begin < 0 || end < 0 ? "" : document.substring(begin + heading.length(), end);
    }

    private static void tellQuotes(Path test, DocumentTest[] parts) throws IOException {
        String source = Files.readString(test);
        Matcher quote = QUOTE.matcher(source);
        int found = 0;
        while (quote.find()) {
            found++;
            int n = quote.group(1) == null ? 0 : Integer.parseInt(quote.group(1));
            StringBuilder words = new StringBuilder();
            Matcher literal = LITERAL.matcher(quote.group(2));
            while (literal.find()) {
                words.append(literal.group(1));
            }
            parts[n].tell(words.toString(), test);
        }
        c.due("quotes read in " + test, found, source.split("\\.sentence\\(", -1).length - 1);
    }

    private void tell(String quote, Path test) {
        int from = 0;
        for (String piece : quote.split(Pattern.quote(LEFT_OUT))) {
            String words = piece.trim();
            int at = text.indexOf(words, from);
            c.isTrue(name + " says '" + words + "', as " + test.getFileName() + " quotes it", at >= 0);
            if (at >= 0) {
                from = at + words.length();
                Arrays.fill(told, at, from, true);
            }
        }
    }

    private void checkAllTold() {
        int at = 0;
        while (at < told.length) {
            int end = at + 1;
            while (end < told.length && told[end] == told[at]) {
                end++;
            }
            String words = text.substring(at, end);
            c.isTrue(name + ": a test for '" + words.trim() + "'", told[at] || !words.matches(".*\\w.*"));
            at = end;
        }
    }
}

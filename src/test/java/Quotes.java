import java.io.IOException;
import java.nio.file.Files;
import java.nio.file.Path;
import java.util.Arrays;
import java.util.LinkedHashSet;
import java.util.Set;

/** Which words of the document the tests quote, so that it shows which ones no test holds. */
final class Quotes {
    private static final Path DOCUMENT = Path.of("../shared/DOC.md");
    /** Lines that promise nothing by themselves. */
    private static final String FRAMES = "(?m)^(## Promise|```|Ahead of the calls).*$|^==== \\d";
    private static final String SIGNATURES = "`[^`]*`:?";

    private final Set<String> quotes = new LinkedHashSet<>();

    void add(String quote) {
        quotes.add(quote);
    }

    /** Told, not refused: the document is not ours, and may be worded anew while the tests still hold. */
    void tell() throws IOException {
        if (!Files.exists(DOCUMENT)) {
            System.out.println("Quotes: there is no document to look at");
            return;
        }
        String document = plain(Files.readString(DOCUMENT).replaceAll(FRAMES, ""));
        boolean[] isQuoted = new boolean[document.length()];
        for (String quote : quotes) {
            markQuoted(document, plain(quote), isQuoted);
        }
        tellUnquoted(document, isQuoted);
    }

    private static String plain(String text) {
        return text.replaceAll("\\s+", " ");
    }

    private static void markQuoted(String document, String quote, boolean[] isQuoted) {
        int from = document.indexOf(quote);
        if (from < 0) {
            System.out.println("Quotes: the document does not say: " + quote);
        }
        while (from >= 0) {
            Arrays.fill(isQuoted, from, from + quote.length(), true);
            from = document.indexOf(quote, from + 1);
        }
    }

    private static void tellUnquoted(String document, boolean[] isQuoted) {
        int place = Math.max(0, document.indexOf("REFUSALS:"));
        int end = document.indexOf("## Not promised");
        while (place < end) {
            int from = place;
            while (place < end && !isQuoted[place]) {
                place++;
            }
            String words = document.substring(from, place).replaceAll(SIGNATURES, "").trim();
            if (words.matches(".*[A-Za-z]{2}.*")) {
                System.out.println("Quotes: no test quotes: " + words);
            }
            place++;
        }
    }
}

import java.io.IOException;
import java.io.UncheckedIOException;
import java.nio.charset.StandardCharsets;
import java.nio.file.Files;
import java.nio.file.Path;
import java.util.BitSet;

/** The document's words, so that a test can name the sentence it stands for and none is left without a test. */
final class Document {
    static final int TERMS = 0;
    static final int PROMISES = 39;
    private static final Path PAGE = Path.of("../shared/DOC.md");

    private final String[] texts = new String[PROMISES + 1];
    private final BitSet[] quoted = new BitSet[PROMISES + 1];

    Document() {
        String page = read();
        texts[TERMS] = plain("An object is" + between(page, "An object is", "## The public face")
            + between(page, "## Terms", "Ahead of the calls"));
        for (int n = 1; n <= PROMISES; n++) {
            String next = n < PROMISES ? "## Promise " + (n + 1) + ":" : "## Not promised";
            String section = between(page, "## Promise " + n + ":", next);
            // Behind the title and the face's line in signs of its own the words begin.
            texts[n] = plain(section.substring(section.indexOf("`:") + 2));
        }
        for (int n = 0; n <= PROMISES; n++) {
            quoted[n] = new BitSet();
        }
    }

    private static String read() {
        try {
            return Files.readString(PAGE, StandardCharsets.UTF_8);
        } catch (IOException e) {
            throw new UncheckedIOException(e);
        }
    }

    private static String between(String page, String from, String to) {
        int start = page.indexOf(from);
        int end = page.indexOf(to, start);
        if (start < 0 || end < 0) {
            throw new IllegalStateException("the document has not: " + from + " .. " + to);
        }
        return page.substring(start + from.length(), end);
    }

    private static String plain(String text) {
        return text.replace("```text", " ").replace("```", " ").replaceAll("\\s+", " ").trim();
    }

    /** Whether the words stand in the promise; they count as quoted from now on. */
    boolean quote(int promise, String words) {
        String text = texts[promise];
        int first = text.indexOf(words);
        int at = first;
        while (at >= 0 && quoted[promise].get(at)) {
            at = text.indexOf(words, at + 1);
        }
        int start = at >= 0 ? at : first;
        if (start < 0) {
            return false;
        }
        quoted[promise].set(start, start + words.length());
        return true;
    }

    /** What of a promise no test has quoted, but for signs between sentences. */
    String unquoted(int promise) {
        StringBuilder left = new StringBuilder();
        String text = texts[promise];
        for (int i = 0; i < text.length(); i++) {
            left.append(quoted[promise].get(i) ? ' ' : text.charAt(i));
        }
        return left.toString().replaceAll("[\\s.,:;]+", " ").trim();
    }
}

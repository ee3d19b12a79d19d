import java.io.IOException;
import java.nio.file.Files;
import java.nio.file.Path;

/**
 * The words of the document that a test is about. At the end it tells which
 * words it has none of, and which are quoted wrongly; neither is a failure,
 * since the document is not the project's own.
 */
final class Edge {
    private static final Path DOCUMENT = Path.of("../shared/DOC.md");
    private static final String TEXT = read();
    private static final boolean[] TOLD = new boolean[TEXT.length()];

    private Edge() {
    }

    private static String read() {
        try {
            return plain(Files.readString(DOCUMENT));
        } catch (IOException e) {
            return "";
        }
    }

    private static String plain(String text) {
        return text.replaceAll("\\s+", " ");
    }

    /** What is asked for from now on is about these words of Terms. */
    static void ofTerms(String... words) {
        of("## Terms ", "## Promise 1: ", "Terms", words);
    }

    /** What is asked for from now on is about these words of the promise. */
    static void of(int promise, String... words) {
        of("## Promise " + promise + ": ", "## ", "promise " + promise, words);
    }

    private static void of(String from, String to, String name, String... words) {
        Check.about(name + " \"" + words[0] + "\"");
        int start = TEXT.indexOf(from);
        int end = TEXT.indexOf(to, start + from.length());
        for (String some : words) {
            int place = TEXT.indexOf(plain(some), Math.max(0, start));
            if (start < 0 || place < 0 || place > end) {
                System.out.println("note: " + name + " does not say: " + some);
            }
            for (int i = place; place >= 0 && i < place + plain(some).length(); i++) {
                TOLD[i] = true;
            }
        }
    }

    /** Notes what no test is about, in Terms and in the promises. */
    static void noteTheRest() {
        int end = Math.max(0, TEXT.indexOf("## Not promised"));
        int place = Math.max(0, TEXT.indexOf("==== I."));
        while (place < end) {
            int next = place;
            while (next < end && !TOLD[next]) {
                next++;
            }
            // Headings, signatures and what stands ahead of the calls ask for nothing by themselves.
            String rest = TEXT.substring(place, next).replaceAll("## Promise \\d+: [A-Za-z ]+`[^`]*`:", "")
                .replaceAll("Ahead of the calls [^-]*---- [a-z, ]+\\.", "").replaceAll("=+ I+\\.|Said once more:|```(text)?|`", "").trim();
            if (rest.matches("(?s).*\\w.*")) {
                System.out.println("note: no test is about: " + rest);
            }
            place = next;
            while (place < end && TOLD[place]) {
                place++;
            }
        }
    }
}

import java.io.IOException;
import java.nio.file.Files;
import java.nio.file.Path;
import java.util.regex.Matcher;
import java.util.regex.Pattern;

/**
 * The sentences that the Edges tests quote stand in the document, and what they leave unquoted names no edge: a number,
 * NONE, RANGE or FULL. A quote begins with its promise's number; [..] in it stands for words that are left out.
 */
public final class SentencesTest {
    private static final Path DOCUMENT = Path.of("../shared/DOC.md");
    private static final String[] TESTS = {"Terms", "Cords", "Reading", "Sums", "Groups"};
    private static final Pattern QUOTE = Pattern.compile("Due\\.sentence\\(((?:\"[^\"]*\"|[\\s+])+)\\)");
    private static final Pattern EDGE = Pattern.compile("\\d|NONE|RANGE|FULL|SPENT|BROKEN");
    private static final int PROMISES = 29;

    private final String text;
    private final boolean[] quoted;

    private SentencesTest(String text) {
        this.text = text;
        quoted = new boolean[text.length()];
    }

    private int start(int promise) {
        return text.indexOf("## Promise " + promise + ": ");
    }

    private int end(int promise) {
        return promise == PROMISES ? text.indexOf("## Not promised") : start(promise + 1);
    }

    /** Marks the pieces of a quote, one behind the other; whether all of them are there. */
    private boolean mark(String quote) {
        Matcher head = Pattern.compile("^(\\d+): ").matcher(quote);
        boolean ofPromise = head.find();
        int promise = ofPromise ? Integer.parseInt(head.group(1)) : 0;
        int at = ofPromise ? start(promise) : 0;
        int end = ofPromise ? end(promise) : text.indexOf("## Promise 1: ");
        for (String piece : (ofPromise ? quote.substring(head.end()) : quote).split("\\[[^\\]]*\\]")) {
            String words = piece.trim();
            int found = text.indexOf(words, at);
            if (found < 0 || found + words.length() > end) {
                return false;
            }
            for (int i = found; i < found + words.length(); i++) {
                quoted[i] = true;
            }
            at = found + words.length();
        }
        return true;
    }

    private void quotesOf(String test) throws IOException {
        String source = Files.readString(Path.of("src/test/java/EdgesOf" + test + "Test.java"));
        Matcher m = QUOTE.matcher(source);
        int n = 0;
        while (m.find()) {
            String quote = m.group(1).replaceAll("\"\\s*\\+\\s*\"", "").replaceAll("^\\s*\"|\"\\s*$", "");
            Due.due("in the document: " + quote, mark(quote) ? 1 : 0, 1);
            n++;
        }
        Due.due("each sentence of EdgesOf" + test + "Test can be read", n, source.split("Due\\.sentence\\(", -1).length - 1);
    }

    private String unquoted(int from, int to) {
        StringBuilder left = new StringBuilder();
        for (int i = from; i < to; i++) {
            left.append(quoted[i] ? '\n' : text.charAt(i));
        }
        return left.toString();
    }

    private static void namesNoEdge(String where, String left) {
        Matcher m = EDGE.matcher(left);
        Due.due(where + ": an edge without a test: " + left.replaceAll("\\s+", " "), m.find() ? 1 : 0, 0);
    }

    private void run() throws IOException {
        for (String test : TESTS) {
            quotesOf(test);
        }
        namesNoEdge("Terms", unquoted(text.indexOf("## Terms"), text.indexOf("The constants:")));
        for (int promise = 1; promise <= PROMISES; promise++) {
            // behind the call's own line
            int from = text.indexOf("`:", start(promise));
            namesNoEdge("promise " + promise, unquoted(from, end(promise)));
        }
    }

    public static void main(String[] args) throws IOException {
        if (!Files.isReadable(DOCUMENT)) {
            // the class is not wrong where only the tests were brought along
            System.out.println("no " + DOCUMENT + ": nothing to hold the quotes against");
            return;
        }
        new SentencesTest(Files.readString(DOCUMENT).replaceAll("\\s+", " ")).run();
        Due.end();
    }
}

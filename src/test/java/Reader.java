import java.io.IOException;
import java.nio.file.Files;
import java.nio.file.Path;

/**
 * The document read from its first sign to its last. A test names the next words, which must be just those, and asks
 * what they say before the words behind them are read: so no sentence stands without a test.
 */
final class Reader {
    private final Due due = new Due("DocumentTest");
    private final String document;
    private int at = 0;
    private String words = "";
    /** Answers asked since the words were read; they are at least one, but for words that promise nothing. */
    private int asked = 1;

    Reader(Path path) throws IOException {
        document = Book.plain(Files.readString(path)).trim();
    }

    /** Goes on by words that promise nothing: a heading, what is free. */
    void passes(String next) {
        reads(next);
        asked = 1;
    }

    /** Goes on by a sentence; what is asked behind this is about it. */
    void reads(String next) {
        if (asked == 0) {
            throw new IllegalStateException("nothing is asked about: " + words);
        }
        if (!document.startsWith(next, at)) {
            throw new IllegalStateException("the document goes on with: "
                + document.substring(at, Math.min(document.length(), at + 100)) + " .. and not with: " + next);
        }
        at += next.length();
        while (at < document.length() && document.charAt(at) == ' ') {
            at++;
        }
        words = next;
        asked = 0;
    }

    /** Goes on by all up to a mark: what stood ahead of it. */
    String takes(String mark) {
        int end = document.indexOf(mark, at);
        if (end < 0) {
            throw new IllegalStateException("no " + mark + " behind: " + words);
        }
        String taken = document.substring(at, end);
        reads(taken + mark);
        return taken;
    }

    boolean isAt(String next) {
        return document.startsWith(next, at);
    }

    void is(String call, long got, long want) {
        asked++;
        due.is("\"" + words + "\": " + call, got, want);
    }

    void is(String call, boolean holds) {
        is(call, holds ? 1 : 0, 1);
    }

    void end() {
        is("signs of the document that were not read", document.length() - at, 0);
        due.end();
    }
}

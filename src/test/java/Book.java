import java.io.IOException;
import java.nio.file.Files;
import java.nio.file.Path;
import java.util.Set;
import java.util.TreeSet;
import java.util.function.ToLongFunction;

/**
 * The document open at a promise: answers at its edges beside those that are due, each told with the sentence it is
 * about. A sentence that does not stand in the document (in that promise, or under "Terms") is a fault of the test.
 */
final class Book {
    private static final int PROMISES = 33;

    private final Due due = new Due("EdgesTest");
    private final String document;
    private final Set<Integer> opened = new TreeSet<>();
    private String section = "";
    private String about = "";

    Book(Path path) throws IOException {
        document = plain(Files.readString(path));
    }

    static String plain(String text) {
        return text.replace("```text", "").replace("```", "").replaceAll("\\s+", " ");
    }

    private String between(String from, String to) {
        int start = document.indexOf(from);
        int end = document.indexOf(to, Math.max(0, start));
        if (start < 0 || end < 0) {
            throw new IllegalStateException("not in the document: " + from + " .. " + to);
        }
        return document.substring(start, end);
    }

    /** Opens the book at a promise, and tells its words. */
    void promise(int number, String name, String words) {
        opened.add(number);
        String then = number < PROMISES ? "## Promise " + (number + 1) + ":" : "## Not promised";
        section = between("## Promise " + number + ": ", then) + between("## Terms", "## Promise 1:");
        about = "promise " + number;
        due.is("promise " + number + " is " + name, section.startsWith("## Promise " + number + ": " + name + " `")
            ? 1 : 0, 1);
        says(words);
        about = "promise " + number + ", \"" + words + "\"";
    }

    /** What the answers behind this are about. */
    void says(String words) {
        due.is(about + ": the document says \"" + words + "\"", section.contains(plain(words)) ? 1 : 0, 1);
        about = about.replaceAll(",.*", "") + ", \"" + words + "\"";
    }

    void is(String call, long got, long want) {
        due.is(about + ": " + call, got, want);
    }

    /** A call that is refused: it answers so, and all that can be seen is as if it had not been made. */
    void refused(Scene scene, String call, ToLongFunction<HandsHall> made, long want) {
        is(scene + ": " + call, made.applyAsLong(scene.make()), want);
        for (int group = 0; group < Scene.groups(); group++) {
            HandsHall x = scene.make();
            made.applyAsLong(x);
            is(scene + ": what is seen (" + group + ") behind " + call, scene.unlike(group, x), -1);
        }
    }

    /** Numbers that are not of least to greatest: one beyond each, the ends of int, and such as wrap to one that is. */
    static int[] beyond(int least, int greatest) {
        return java.util.stream.IntStream.of(least - 1, greatest + 1, Integer.MIN_VALUE, Integer.MIN_VALUE + 1,
            Integer.MAX_VALUE, Integer.MAX_VALUE - 1, least + 256, least + 65536, greatest - 256, greatest - 65536,
            Integer.MIN_VALUE + greatest, ~least, ~greatest).filter(v -> v < least || v > greatest).distinct().toArray();
    }

    void end() {
        due.is("promises whose edges are tested", opened.size(), PROMISES);
        due.end();
    }
}

import java.io.IOException;
import java.nio.file.Path;

/** The edges that the document names, promise by promise. Run from the project's root. */
public final class EdgesTest {
    public static void main(String[] args) throws IOException {
        Book book = new Book(Path.of("../shared/DOC.md"));
        new TaskEdges(book).all();
        new ItemEdges(book).all();
        new HandEdges(book).all();
        new JoiningEdges(book).all();
        new OddsEdges(book).all();
        new CoinEdges(book).all();
        book.end();
    }
}

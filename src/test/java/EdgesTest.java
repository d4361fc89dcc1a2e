import java.io.IOException;
import java.util.List;

/** Sentence by sentence of the document: the edges that it names, and what a refused call leaves as it was. */
public final class EdgesTest {
    public static void main(String[] args) throws IOException {
        Checks checks = new Checks("EdgesTest");
        Quotes quotes = new Quotes();
        List<Edges> parts = List.of(new EdgesOfBook(checks, quotes), new EdgesOfPages(checks, quotes),
            new EdgesOfPosts(checks, quotes), new EdgesOfOtherSide(checks, quotes), new EdgesOfMakers(checks, quotes),
            new EdgesOfSheets(checks, quotes));
        parts.forEach(Edges::hold);
        quotes.tell();
        checks.end();
    }
}

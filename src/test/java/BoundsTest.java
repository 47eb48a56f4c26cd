import java.io.IOException;
import java.nio.file.Files;
import java.nio.file.Path;

/** Each sentence of the document that names a boundary case, by its own words. */
public final class BoundsTest {
    public static void main(String[] args) throws IOException {
        Path document = Path.of(System.getProperty("document", "../shared/DOC.md"));
        Sentences said = new Sentences("BoundsTest", Files.readString(document));
        new TextBounds(said).all();
        new TermBounds(said).all();
        new HeardBounds(said).all();
        new PromiseBounds(said).all();
        said.end();
    }
}

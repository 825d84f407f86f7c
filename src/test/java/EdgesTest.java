import java.io.IOException;
import java.nio.file.Files;
import java.nio.file.Path;

/** Each sentence of the document that names a boundary case, with a test of its own. */
public final class EdgesTest {
    public static void main(String[] args) throws IOException {
        Path file = Path.of(args.length > 0 ? args[0] : ".", "../shared/DOC.md");
        if (Files.exists(file)) {
            Edge.begin(new Document(file));
        } else {
            System.out.println(file + " is not there: the sentences are tested, but not looked up");
        }
        FirstLineEdges.all();
        TermsEdges.all();
        RefusalsEdges.all();
        ThingsEdges.all();
        MeetingsEdges.all();
        BurnsEdges.all();
        DotsAndNoticesEdges.all();
        CataloguesEdges.all();
        Edge.end();
        Due.end();
    }
}

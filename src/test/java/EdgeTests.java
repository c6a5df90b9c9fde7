import java.io.IOException;
import java.nio.file.Files;
import java.nio.file.Path;

/** A test for each sentence of the document, and a look at whether one has been left out. */
public final class EdgeTests {
    private EdgeTests() {
    }

    public static void main(String[] args) throws IOException {
        Checks checks = new Checks();
        Path path = Path.of("../shared/DOC.md");
        checks.holds("there is the document, " + path, Files.isReadable(path));
        if (!Files.isReadable(path)) {
            checks.end("EdgeTests");
        }
        Document document = new Document(path);
        checks.holds("the document has its sections", document.size() >= 41);
        Edges[] kinds = {new TermEdges(checks, document), new MinuteEdges(checks, document),
            new TextEdges(checks, document), new ChangeEdges(checks, document), new CallEdges(checks, document),
            new QuestionEdges(checks, document)};
        int tests = 0;
        for (Edges kind : kinds) {
            kind.all();
            tests += kind.tests();
        }
        for (String rest : document.unquoted()) {
            checks.holds("a test for these words: " + rest, false);
        }
        System.out.println(tests + " tests of the document's words");
        checks.end("EdgeTests");
    }
}

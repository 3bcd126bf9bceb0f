import java.nio.file.Files;
import java.nio.file.Path;
import java.util.List;

/** A test for each sentence of the document that names a boundary, and a look for sentences without a test. */
public final class BoundaryTest {
    private static final List<String> TERMS = List.of("Metals and alloys", "Moulds", "Bows and squeaks",
            "Batches and inspection", "Melting", "Scripts", "Changes");
    private static final int PROMISES = 53;

    public static void main(String[] args) throws Exception {
        Document document = new Document(Files.readString(Path.of(args[0])));
        Check.read(document);
        TermBounds.test();
        ScriptBounds.test();
        ChangeBounds.test();
        RefusalBounds.test();
        PromiseBounds.test();
        nothingLeftOut(document);
        Check.end("BoundaryTest");
    }

    private static void nothingLeftOut(Document document) {
        Check.noSentence();
        for (String section : TERMS) {
            Check.same(section + " is there", document.has(section), true);
            Check.same("without a test in " + section, document.unnamed(section, ""), List.of());
        }
        for (int i = 1; i <= PROMISES; i++) {
            String section = "Promise " + i;
            Check.same(section + " is there", document.has(section), true);
            Check.same("without a test in " + section, document.unnamed(section, "Throws"), List.of());
        }
    }
}

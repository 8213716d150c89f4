import java.io.IOException;
import java.nio.file.Files;
import java.nio.file.Path;

/** Promises 1 to 52: a test for each sentence of the document that names a boundary case. */
public final class BoundariesTest {
    /** From the project's folder, in which .ci/run runs the tests. */
    private static final Path DOCUMENT = Path.of("..", "shared", "DOC.md");

    public static void main(String[] args) throws IOException {
        TermsBoundaries.run();
        ChangesBoundaries.run();
        QueriesBoundaries.run();
        ScriptsBoundaries.run();
        if (Files.exists(DOCUMENT)) {
            Sentences.compareWith(DOCUMENT);
        } else {
            System.out.println("no " + DOCUMENT + ": the sentences are tested, but not compared with it");
        }
        Due.end();
    }
}

import java.io.IOException;

/** For each sentence of the document that names a boundary, the test that stands for it alone. */
public final class BoundaryTest {
    public static void main(String[] args) throws IOException {
        Sentences document = new Sentences("BoundaryTest");
        Boundary[] parts = {
            new BoundaryTerms(document), new BoundaryText(document), new BoundaryHistory(document),
            new BoundaryErrors(document), new BoundaryMemory(document), new BoundaryTasks(document),
            new BoundaryReading(document), new BoundarySpread(document)
        };
        for (Boundary part : parts) {
            part.all();
        }
        document.finish();
    }
}

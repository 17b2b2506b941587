import java.io.IOException;

/** Each sentence of the document that names a boundary: on it, one below, one above, and what stays behind a refused call. */
public final class BoundaryTests {
    private BoundaryTests() {
    }

    public static void main(String[] args) throws IOException {
        Sentences.readDocument();
        TextBounds.run();
        DateBounds.run();
        SpanBounds.run();
        RowBounds.run();
        MarchBounds.run();
        ChangeBounds.run();
        Sentences.finish();
        Due.finish("BoundaryTests");
    }
}

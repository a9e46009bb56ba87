/** A test for each sentence of the document that names a boundary case, promise by promise. */
public final class BoundaryTest {
    private BoundaryTest() {
    }

    public static void main(String[] args) {
        Sentences all = new Sentences();
        CodeBounds.into(all);
        SendingBounds.into(all);
        ReadingBounds.into(all);
        TextBounds.into(all);
        CountBounds.into(all);
        all.run();
    }
}

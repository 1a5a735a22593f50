import java.io.IOException;

/** Each sentence of the document that names a boundary has a test of its own, and no sentence is left out. It is run in the root of the project. */
final class BoundariesTest {
    private BoundariesTest() {
    }

    public static void main(String[] args) throws IOException {
        Sentences.read();
        FilmBoundaries.run();
        CaptionBoundaries.run();
        TextBoundaries.run();
        TongueBoundaries.run();
        RuleBoundaries.run();
        FormatBoundaries.run();
        RefusalBoundaries.run();
        Sentences.end();
        Checks.end("BoundariesTest");
    }
}

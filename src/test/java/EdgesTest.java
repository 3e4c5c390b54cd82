import java.io.IOException;

/** The boundary cases, sentence by sentence of the document; a sentence without a test is wrong, too. */
final class EdgesTest {
    public static void main(String[] args) throws IOException {
        EdgesOfTerms.run();
        EdgesOfKeepers.run();
        EdgesOfCapsule.run();
        EdgesOfTexts.run();
        EdgesOfLooks.run();
        EdgesOfWouldBe.run();
        Sentences.compareWithDocument();
        Checks.finish("EdgesTest");
    }
}

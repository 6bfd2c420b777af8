import java.io.IOException;

/** The document sentence by sentence: each has a test of its own, with the last values taken and the first refused. */
public final class SentencesTest {
    private SentencesTest() {
    }

    public static void main(String[] args) throws IOException {
        Sentences sentences = new Sentences();
        DescriptionSentences.tell(sentences);
        SimulationSentences.tell(sentences);
        NodePromises.tell(sentences);
        ExchangePromises.tell(sentences);
        RangePromises.tell(sentences);
        FixPromises.tell(sentences);
        StatePromises.tell(sentences);
        sentences.finish("SentencesTest");
    }
}

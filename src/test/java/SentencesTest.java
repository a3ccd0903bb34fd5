import java.io.IOException;

/** Every sentence of the document, promise by promise, with a case of its own for each that a call can break. */
public final class SentencesTest {
    public static void main(String[] args) throws IOException {
        Sentences sentences = new Sentences();
        DescriptionSentences.all(sentences);
        ConstantSentences.all(sentences);
        BufferSentences.all(sentences);
        TableSentences.all(sentences);
        SettingsSentences.all(sentences);
        DraftsSentences.all(sentences);
        WeightsSentences.all(sentences);
        DigestSentences.all(sentences);
        sentences.end();
    }
}

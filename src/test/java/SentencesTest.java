/** A test of its own for each sentence of the document that names a boundary case. */
public final class SentencesTest {
    private SentencesTest() {
    }

    public static void main(String[] args) {
        TextSentences.all();
        DriveSentences.all();
        ErrorSentences.all();
        SearchSentences.all();
        ChangeSentences.all();
        BacklashSentences.all();
        OutputSentences.all();
        HistorySentences.all();
        CallSentences.all();
        DocumentSentences.all();
        Check.end("SentencesTest");
    }
}

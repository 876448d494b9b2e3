import java.io.IOException;

/** For each sentence of the document that names a boundary, the test that bears its words. */
public final class SentencesTest {
    public static void main(String[] args) throws IOException {
        TermSentences.hold();
        TextSentences.hold();
        UndoSentences.hold();
        ChartSentences.hold();
        BeadSentences.hold();
        StrandSentences.hold();
        LookSentences.hold();
        PlanSentences.hold();
        Document.compare(Sentence.tested());
        System.out.println(Sentence.tested().size() + " sentences have a test of their own");
        Check.finish();
    }
}

import java.io.IOException;

/** For each sentence of the document the test that bears its words. */
public final class SentencesTest {
    public static void main(String[] args) throws IOException {
        FaceSentences.hold();
        TermSentences.hold();
        TextSentences.hold();
        UndoSentences.hold();
        ChartSentences.hold();
        BeadSentences.hold();
        StrandSentences.hold();
        LookSentences.hold();
        PlanSentences.hold();
        PurposeSentences.hold();
        notPromised();
        Document.compare(Sentence.quoted());
        System.out.println(Sentence.tested() + " sentences have a test of their own");
        Check.finish();
    }

    private static void notPromised() {
        String heading = "Not promised";
        Sentence.leavesFree(heading, "How the state is held inside the object is free, as are the "
                + "speed of each call, the text of toString and the behaviour of equals and "
                + "hashCode.");
        Sentence.leavesFree(heading,
                "Use of one object from several threads at once is not promised to be safe.");
        Sentence.leavesFree(heading, "Nothing is promised beyond the answers and state changes "
                + "described above, and nothing about an object after its 512th call.");
    }
}

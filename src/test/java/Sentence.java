import java.util.ArrayList;
import java.util.List;

/** Sentences of the document that name a boundary, each with a test of its own that holds it. */
final class Sentence {
    /** Where a sentence stands, and its words (or those of its part that is tested). */
    record Quote(String heading, String words) {
    }

    private static final List<Quote> TESTED = new ArrayList<>();

    private Sentence() {
    }

    static void holds(int promise, String words, Runnable test) {
        holds("Promise " + promise, words, test);
    }

    static void holds(String heading, String words, Runnable test) {
        Quote quote = new Quote(heading, words);
        if (TESTED.contains(quote)) {
            Check.fail("two tests for " + quote);
        }
        TESTED.add(quote);
        int before = Check.failures();
        try {
            test.run();
        } catch (RuntimeException e) {
            Check.fail("a call that is due to answer threw " + e);
        }
        boolean held = Check.failures() == before;
        System.out.println((held ? "held    " : "BROKEN  ") + heading + ": " + words);
    }

    static List<Quote> tested() {
        return TESTED;
    }
}

import java.util.ArrayList;
import java.util.List;

/** Sentences of the document, each with a test of its own that holds it. */
final class Sentence {
    /** Where a sentence stands, and its words (or those of its part that is tested). */
    record Quote(String heading, String words) {
    }

    private static final List<Quote> QUOTED = new ArrayList<>();
    private static int tested = 0;

    private Sentence() {
    }

    static void holds(int promise, String words, Runnable test) {
        holds("Promise " + promise, words, test);
    }

    static void holds(String heading, String words, Runnable test) {
        quote(heading, words);
        tested++;
        int before = Check.failures();
        try {
            test.run();
        } catch (RuntimeException e) {
            Check.fail("a call that is due to answer threw " + e);
        }
        boolean held = Check.failures() == before;
        System.out.println((held ? "held    " : "BROKEN  ") + heading + ": " + words);
    }

    /** A sentence that leaves something free: there is no answer that would break it. */
    static void leavesFree(String heading, String words) {
        quote(heading, words);
        System.out.println("free    " + heading + ": " + words);
    }

    private static void quote(String heading, String words) {
        Quote quote = new Quote(heading, words);
        if (QUOTED.contains(quote)) {
            Check.fail("two tests for " + quote);
        }
        QUOTED.add(quote);
    }

    static List<Quote> quoted() {
        return QUOTED;
    }

    static int tested() {
        return tested;
    }
}

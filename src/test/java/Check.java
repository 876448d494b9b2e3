import java.util.function.IntUnaryOperator;

/** What all tests use: counts checks, and prints each one whose answer is not the one that is due. */
final class Check {
    interface Call {
        long answer();
    }

    private static final int MOST_PRINTED = 60;

    private static int passed = 0;
    private static int failed = 0;

    private Check() {
    }

    static void due(String what, long got, long want) {
        if (got == want) {
            passed++;
        } else {
            fail(what + " answered " + got + ", due is " + want);
        }
    }

    static void dueDouble(String what, double got, double want) {
        due(what, Double.doubleToLongBits(got), Double.doubleToLongBits(want));
    }

    static void dueText(String what, String got, String want) {
        if (got.equals(want)) {
            passed++;
        } else {
            fail(what + " is " + got + ", due is " + want);
        }
    }

    /** The numbers that are due for what = 0, 1, 2 and so on. */
    static void dueAll(String what, IntUnaryOperator got, long... want) {
        for (int i = 0; i < want.length; i++) {
            due(what + " " + i, got.applyAsInt(i), want[i]);
        }
    }

    static void fail(String message) {
        failed++;
        if (failed <= MOST_PRINTED) {
            System.out.println(message);
        }
    }

    static int failures() {
        return failed;
    }

    /** The exact name: what the machine itself throws is often a class below the one that is due. */
    static String thrownBy(Call call) {
        try {
            call.answer();
            return "nothing";
        } catch (RuntimeException e) {
            return e.getClass().getSimpleName();
        }
    }

    private static void throwsNamed(String what, Workshop x, String name, Call call) {
        long before = x.digest();
        dueText("what " + what + " throws", thrownBy(call), name);
        due(what + ": the digest behind it", x.digest(), before);
    }

    static void argument(String what, Workshop x, Call call) {
        throwsNamed(what, x, "IllegalArgumentException", call);
    }

    static void state(String what, Workshop x, Call call) {
        throwsNamed(what, x, "IllegalStateException", call);
    }

    static void index(String what, Workshop x, Call call) {
        throwsNamed(what, x, "IndexOutOfBoundsException", call);
    }

    /**
     * The call saves a state, and undo brings all back from before it, but not the text in the
     * buffer, which the call takes (if there is one).
     */
    static void undoable(String what, Workshop x, String text, Call call) {
        String before = x.picture();
        int saved = x.count(12);
        x.retype(text);
        call.answer();
        due(what + ": saved states", x.count(12), Math.min(6, saved + 1));
        due(what + ": undo", x.undo(), Math.min(5, saved));
        due(what + ": buffer after undo", x.clearBuffer(), 0);
        dueText(what + ": all after undo", x.picture(), before);
    }

    static void undoable(String what, Workshop x, Call call) {
        undoable(what, x, "", call);
    }

    static void finish() {
        System.out.println(passed + " checks held, " + failed + " did not");
        if (failed > 0) {
            System.exit(1);
        }
    }
}

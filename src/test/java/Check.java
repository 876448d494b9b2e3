/** What all tests use: counts checks, and prints each one whose answer is not the one that is due. */
final class Check {
    interface Call {
        long answer();
    }

    private static int passed = 0;
    private static int failed = 0;

    private Check() {
    }

    static void due(String what, long got, long want) {
        if (got == want) {
            passed++;
        } else {
            fail(what + " answered " + got + ", due is " + want);
        }
    }

    static void dueDouble(String what, double got, double want) {
        due(what, Double.doubleToLongBits(got), Double.doubleToLongBits(want));
    }

    /** The numbers that are due for what = 0, 1, 2 and so on. */
    static void dueAll(String what, java.util.function.IntUnaryOperator got, long... want) {
        for (int i = 0; i < want.length; i++) {
            due(what + " " + i, got.applyAsInt(i), want[i]);
        }
    }

    static void fail(String message) {
        failed++;
        if (failed <= 40) {
            System.out.println(message);
        }
    }

    static String thrownBy(Call call) {
        try {
            call.answer();
            return "nothing";
        } catch (RuntimeException e) {
            return e.getClass().getSimpleName();
        }
    }

    private static void throwsNamed(String what, BeadSpirals x, String name, Call call) {
        long before = x.digest();
        String thrown = thrownBy(call);
        if (!thrown.equals(name)) {
            fail(what + " threw " + thrown + ", due is " + name);
        } else if (x.digest() != before) {
            fail(what + " threw, but changed something");
        } else {
            passed++;
        }
    }

    static void argument(String what, BeadSpirals x, Call call) {
        throwsNamed(what, x, "IllegalArgumentException", call);
    }

    static void state(String what, BeadSpirals x, Call call) {
        throwsNamed(what, x, "IllegalStateException", call);
    }

    static void index(String what, BeadSpirals x, Call call) {
        throwsNamed(what, x, "IndexOutOfBoundsException", call);
    }

    /**
     * The call saves a state, and undo brings all back from before it, but not the text in the
     * buffer, which the call takes (if there is one).
     */
    static void undoable(String what, BeadSpirals x, String text, Call call) {
        String before = all(x);
        int saved = x.count(12);
        type(x, text);
        call.answer();
        due(what + ": saved states", x.count(12), Math.min(6, saved + 1));
        due(what + ": buffer", x.firstError(true), 0);
        due(what + ": undo", x.undo(), Math.min(5, saved));
        due(what + ": buffer after undo", x.clearBuffer(), 0);
        dueText(what + ": all after undo", all(x), before);
    }

    static void undoable(String what, BeadSpirals x, Call call) {
        undoable(what, x, "", call);
    }

    /** All that undo brings back. */
    private static String all(BeadSpirals x) {
        StringBuilder text = new StringBuilder();
        text.append(cells(x)).append(' ').append(beads(x)).append(' ').append(begins(x));
        for (int setting = 0; setting < 4; setting++) {
            text.append(' ').append(x.setting(setting));
        }
        for (int colour = 0; colour < 6; colour++) {
            for (int what = 0; what < 6; what++) {
                text.append(' ').append(x.colour(colour, what));
            }
        }
        for (int what = 0; what < 12; what++) {
            text.append(' ').append(x.count(what));
        }
        return text.toString();
    }

    /** Puts a text into the buffer in place of what is there. */
    static BeadSpirals type(BeadSpirals x, String text) {
        x.clearBuffer();
        for (int i = 0; i < text.length(); i++) {
            x.append(text.charAt(i));
        }
        return x;
    }

    static BeadSpirals withChart(String text) {
        BeadSpirals x = type(new BeadSpirals(), text);
        x.load();
        return x;
    }

    /** A workshop with a chart of one cell of colour 0, and 600 beads of each colour. */
    static BeadSpirals rich() {
        BeadSpirals x = new BeadSpirals();
        for (int colour = 0; colour < 6; colour++) {
            for (int i = 0; i < 6; i++) {
                x.buy(colour, 100);
            }
        }
        return x;
    }

    /** As rich(), with this chart and this row of beads on one string that holds up to 240. */
    static BeadSpirals richWith(String chart, String row) {
        BeadSpirals x = type(rich(), chart);
        x.load();
        x.set(2, 240);
        if (!row.isEmpty()) {
            type(x, row);
            x.stringRow();
        }
        return x;
    }

    static String cells(BeadSpirals x) {
        StringBuilder text = new StringBuilder();
        for (int row = 0; row < x.count(0); row++) {
            text.append(row == 0 ? "" : "/");
            for (int column = 0; column < x.count(1); column++) {
                text.append((char) ('a' + x.cell(row, column)));
            }
        }
        return text.toString();
    }

    static String beads(BeadSpirals x) {
        StringBuilder text = new StringBuilder();
        for (int bead = 0; bead < x.count(2); bead++) {
            text.append((char) ('a' + x.bead(bead, 0)));
        }
        return text.toString();
    }

    static String begins(BeadSpirals x) {
        StringBuilder text = new StringBuilder();
        for (int string = 0; string < x.count(3); string++) {
            text.append(string == 0 ? "" : " ").append(x.strand(string, 0));
        }
        return text.toString();
    }

    static void dueText(String what, String got, String want) {
        if (got.equals(want)) {
            passed++;
        } else {
            fail(what + " is " + got + ", due is " + want);
        }
    }

    static void finish() {
        System.out.println(passed + " checks held, " + failed + " did not");
        if (failed > 0) {
            System.exit(1);
        }
    }
}

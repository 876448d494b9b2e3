import java.util.function.LongConsumer;
import java.util.function.Supplier;

/** Promises 24 to 31: needed, plan, firstWrong, bestCrush, bestSlant, bestTurn, wrongShare, digest. */
public final class PlanTest {
    public static void main(String[] args) {
        promise24();
        promise25();
        promise25Refuses();
        promise26();
        promise27();
        promise28();
        promise29();
        promise30();
        promise31();
        Check.finish();
    }

    private static void promise24() {
        Workshop x = new Workshop();
        Check.due("one cell: needed", x.needed(0, 240), 240);
        Workshop y = Workshop.withChart("aab/bca");
        // "aabaab", then "cabcab" (row 1 from column 1), then "baabaa" (row 0 from column 2)
        Check.due("needed of 0 in 1", y.needed(0, 1), 1);
        Check.due("needed of 1 in 2", y.needed(1, 2), 0);
        Check.due("needed of 1 in 3", y.needed(1, 3), 1);
        Check.due("needed of 0 in 12", y.needed(0, 12), 6);
        Check.due("needed of 1 in 12", y.needed(1, 12), 4);
        Check.due("needed of 2 in 12", y.needed(2, 12), 2);
        Check.due("needed of 2 in 6", y.needed(2, 6), 0);
        Check.due("needed of 2 in 7", y.needed(2, 7), 1);
        Check.due("needed of 5", y.needed(5, 240), 0);
        Check.argument("needed of -1", y, () -> y.needed(-1, 1));
        Check.argument("needed of 6", y, () -> y.needed(6, 1));
        Check.argument("needed in 0", y, () -> y.needed(0, 0));
        Check.argument("needed in 241", y, () -> y.needed(0, 241));
        Check.argument("needed in MAX", y, () -> y.needed(0, Integer.MAX_VALUE));
        Check.argument("needed in MIN", y, () -> y.needed(0, Integer.MIN_VALUE));
    }

    private static void promise25() {
        Workshop x = Workshop.withChart("a5b");
        x.set(1, 0);
        x.set(2, 20);
        // colour 0 stands at each sixth bead: a string of up to 20 goes on to the third of them
        Check.due("plan 20", x.plan(20, -1), 1);
        Check.due("plan 21", x.plan(21, -1), 2);
        Check.due("plan 38", x.plan(38, -1), 2);
        Check.due("plan 39", x.plan(39, -1), 3);
        Check.due("plan 60", x.plan(60, -1), 4);
        int[] begins = {0, 18, 36, 54, -1};
        for (int string = 0; string < 5; string++) {
            Check.due("plan 60, string " + string, x.plan(60, string), begins[string]);
        }
        Check.due("plan 20, string 1", x.plan(20, 1), -1);
        Check.due("plan 1, string 0", x.plan(1, 0), 0);
        x.set(2, 6);
        Check.due("plan with a begin at the very end", x.plan(240, -1), 40);
        Check.due("its last string", x.plan(240, 39), 234);
        x.set(2, 5);
        Check.due("plan 5", x.plan(5, -1), 1);
        Check.due("plan that is not possible", x.plan(6, -1), -1);
        Check.due("its string 0", x.plan(6, 0), -1);
        Check.due("string 1 of one that is possible only at first", x.plan(240, 1), -1);
        Workshop y = new Workshop();
        y.set(2, 5);
        Check.due("48 strings", y.plan(240, -1), 48);
        Check.due("the last one of 48", y.plan(240, 47), 235);
        Workshop z = Workshop.withChart("5ab");
        z.set(1, 0);
        z.set(2, 6);
        z.set(3, 1);
        // colour 1 stands at 5, 11, 17 and so on
        Check.due("begin as late as can be", z.plan(12, 1), 5);
        Check.due("two more", z.plan(12, 2), 11);
        Check.due("three strings", z.plan(12, -1), 3);
        z.set(2, 16);
        Check.due("not the first that is possible", z.plan(27, 1), 11);
        Check.due("plan does not look at the beads", z.count(2), 0);
        Workshop near = Workshop.withChart("ba4ba5b");
        near.set(0, 12);
        near.set(2, 5);
        Check.due("a string of one bead: strings", near.plan(11, -1), 3);
        Check.due("a string of one bead: string 1", near.plan(11, 1), 1);
        Check.due("a string of one bead: string 2", near.plan(11, 2), 6);
    }

    private static void promise25Refuses() {
        Workshop x = new Workshop();
        Check.argument("plan 0", x, () -> x.plan(0, 0));
        Check.argument("plan 241", x, () -> x.plan(241, 0));
        Check.argument("plan of string -2", x, () -> x.plan(1, -2));
        Check.argument("plan of string 48", x, () -> x.plan(1, 48));
        Check.argument("plan MAX", x, () -> x.plan(Integer.MAX_VALUE, 0));
        Check.argument("plan of string MIN", x, () -> x.plan(1, Integer.MIN_VALUE));
        Check.due("plan of string 47", x.plan(1, 47), -1);
    }

    private static void promise26() {
        Workshop x = Workshop.richWith("ab", "");
        Check.due("firstWrong without beads", x.firstWrong(), -1);
        x.retype("ababab").stringRow();
        Check.due("firstWrong when all are right", x.firstWrong(), -1);
        x.retype("b2a").stringRow();
        Check.due("firstWrong of the last one", x.firstWrong(), 8);
        x.crush(3);
        Check.due("firstWrong behind a crushed one", x.firstWrong(), 3);
        x.recolour(0, 1);
        Check.due("firstWrong by another chart", x.firstWrong(), 0);
    }

    private static void promise27() {
        Check.due("bestCrush without beads", Workshop.richWith("ab", "").bestCrush(), 0);
        // the pattern is "ababab", then "bababa"
        Check.due("bestCrush, all right", Workshop.richWith("ab", "abab").bestCrush(), 4);
        Check.due("bestCrush, one wrong", Workshop.richWith("ab", "abcab").bestCrush(), 4);
        Check.due("bestCrush, first wrong", Workshop.richWith("ab", "bab").bestCrush(), 2);
        Check.due("bestCrush, doubles", Workshop.richWith("ab", "3a3b2a").bestCrush(), 3);
        Check.due("bestCrush, nothing right", Workshop.richWith("ab", "9b").bestCrush(), 0);
        Check.due("bestCrush over the round", Workshop.richWith("ab", "abababbc2a").bestCrush(), 8);
    }

    private static void promise28() {
        Check.due("bestSlant without beads", Workshop.richWith("ab", "").bestSlant(), 0);
        Check.due("bestSlant of one round", Workshop.richWith("ab", "2cab").bestSlant(), 0);
        // rounds of 6 of 12 columns: each begins as many columns further as the slant tells
        for (int slant = 0; slant < 12; slant++) {
            Workshop x = Workshop.richWith("abcdefaabbcc", "");
            x.set(1, slant);
            x.stringNext(60);
            x.set(1, (slant + 5) % 12);
            Check.due("bestSlant", x.bestSlant(), slant);
            Check.due("the slant stays", x.setting(1), (slant + 5) % 12);
        }
        Workshop y = Workshop.richWith("abc", "abcabcbcabca");
        Check.due("bestSlant, of 1, 4, 7 and 10 the least", y.bestSlant(), 1);
    }

    private static void promise29() {
        Check.due("bestTurn without beads", Workshop.richWith("ab", "").bestTurn(), -1);
        Check.due("bestTurn when all are right", Workshop.richWith("ab", "ab").bestTurn(), -1);
        Check.due("bestTurn: columns opposite", bestTurnOf("abc/def", "cbacba"), 0);
        Check.due("bestTurn: rows opposite", bestTurnOf("ab/cd/ef", "efefefdcdcdc"), 1);
        Check.due("bestTurn: first column last", bestTurnOf("abc/def", "bcabca"), 2);
        Check.due("bestTurn: first row last", bestTurnOf("a/b/c", "6b6c6a"), 3);
        Check.due("bestTurn: rows and columns", bestTurnOf("ab/cd", "acacacdbdbdb"), 4);
        Check.due("bestTurn: of 0 and 2 the least", bestTurnOf("ab", "bababa"), 0);
        Check.due("bestTurn: of 1 and 3 the least", bestTurnOf("a/b", "6b6a"), 1);
        Check.due("bestTurn: as many wrong as now", bestTurnOf("ab", "a2ba"), -1);
        Check.due("bestTurn of eleven columns", bestTurnOf("a9bc", "12a"), -1);
        Check.due("bestTurn of ten columns", bestTurnOf("a8bc", "6a"), 4);
        Workshop less = Workshop.richWith("abababababab", "2ab");
        less.unpick(1);
        Check.due("bestTurn does not look at beads that are off", less.bestTurn(), -1);
        Workshop x = Workshop.richWith("abc/def", "cbacba");
        long before = x.digest();
        x.bestTurn();
        Check.due("bestTurn changes nothing", x.digest(), before);
    }

    private static int bestTurnOf(String chart, String row) {
        return Workshop.richWith(chart, row).bestTurn();
    }

    private static void promise30() {
        Check.dueDouble("wrongShare without beads", new Workshop().wrongShare(), 0.0);
        Check.dueDouble("no bead wrong", Workshop.richWith("ab", "ab").wrongShare(), 0.0);
        Check.dueDouble("all wrong", Workshop.richWith("ab", "3c").wrongShare(), 1.0);
        Check.dueDouble("the only one wrong", Workshop.richWith("ab", "c").wrongShare(), 1.0);
        Check.dueDouble("1 of 3", Workshop.richWith("ab", "abc").wrongShare(), 1.0 / 3.0);
        Check.dueDouble("2 of 7", Workshop.richWith("a", "2b5a").wrongShare(), 2.0 / 7.0);
        Check.dueDouble("1 of 240", Workshop.richWith("a", "b60a60a60a59a").wrongShare(), 1.0 / 240.0);
    }

    /** Hands out the same workshop again, made anew before it has been called too often. */
    private static final class Source {
        private final Supplier<Workshop> made;
        private Workshop now;

        private Source(Supplier<Workshop> made) {
            this.made = made;
            now = made.get();
        }

        private Workshop next() {
            if (now.calls() > 500) {
                now = made.get();
            }
            return now;
        }
    }

    /** The list of the promise, from the calls of the face. */
    private static long listed(Supplier<Workshop> made, String text) {
        Source x = new Source(made);
        long[] hash = {2351L};
        LongConsumer take = v -> hash[0] = 31 * hash[0] + v;
        int rows = x.next().count(0);
        int columns = x.next().count(1);
        int beads = x.next().count(2);
        int strings = x.next().count(3);
        for (int what = 0; what < 13; what++) {
            take.accept(x.next().count(what));
        }
        for (int setting = 0; setting < 4; setting++) {
            take.accept(x.next().setting(setting));
        }
        for (int row = 0; row < rows; row++) {
            for (int column = 0; column < columns; column++) {
                take.accept(x.next().cell(row, column));
            }
        }
        for (int colour = 0; colour < 6; colour++) {
            for (int what = 0; what < 6; what++) {
                take.accept(x.next().colour(colour, what));
            }
            take.accept(x.next().needed(colour, 60));
        }
        for (int bead = 0; bead < beads; bead++) {
            for (int what = 0; what < 4; what++) {
                take.accept(x.next().bead(bead, what));
            }
        }
        for (int string = 0; string < strings; string++) {
            for (int what = 0; what < 4; what++) {
                take.accept(x.next().strand(string, what));
            }
        }
        for (int string = -1; string < 8; string++) {
            take.accept(x.next().plan(120, string));
        }
        take.accept(x.next().firstWrong());
        take.accept(x.next().bestCrush());
        take.accept(x.next().bestSlant());
        take.accept(x.next().bestTurn());
        take.accept(Double.doubleToLongBits(x.next().wrongShare()));
        take.accept(text.length());
        text.chars().forEach(take::accept);
        return hash[0];
    }

    private static void promise31() {
        Check.due("digest of a new object", new Workshop().digest(), listed(Workshop::new, ""));
        for (int wrong = 0; wrong <= 60; wrong++) {
            for (int all : new int[] {Math.max(1, wrong), 61, 97, 128, 239, 240}) {
                digestOf(wrong, all);
            }
        }
        String text = "~!/12abc";
        Workshop x = manyThings(text);
        Check.due("digest with strings and a text", x.digest(), listed(() -> manyThings(text), text));
        Check.due("digest again", x.digest(), manyThings(text).digest());
        Supplier<Workshop> strings = TermSentences::fortyEightStrings;
        Check.due("digest with 48 strings", strings.get().digest(), listed(strings, ""));
        Supplier<Workshop> greatest = () -> Workshop.withChart(TermSentences.GREATEST);
        Check.due("digest of the greatest chart", greatest.get().digest(), listed(greatest, ""));
    }

    private static Workshop manyThings(String text) {
        Workshop x = Workshop.richWith("abc/def", "12ab30c").joined();
        x.string(3, 9);
        x.joined().having(2, 30);
        x.crush(3);
        x.unpick(2);
        return x.retype(text);
    }

    private static void digestOf(int wrong, int all) {
        StringBuilder row = new StringBuilder();
        addBeads(row, wrong, 'b');
        int left = all - wrong;
        while (left > 0) {
            addBeads(row, Math.min(60, left), 'a');
            left -= 60;
        }
        Supplier<Workshop> made = () -> Workshop.richWith("a", row.toString());
        Check.due("digest with " + wrong + " wrong of " + all, made.get().digest(), listed(made, ""));
    }

    private static void addBeads(StringBuilder row, int many, char letter) {
        if (many > 1) {
            row.append(many);
        }
        if (many > 0) {
            row.append(letter);
        }
    }
}

/** Promises 24 to 31: needed, plan, firstWrong, bestCrush, bestSlant, bestTurn, wrongShare, digest. */
public final class PlanTest {
    public static void main(String[] args) {
        promise24();
        promise25();
        promise25Refuses();
        promise26();
        promise27();
        promise28();
        promise29();
        promise30();
        promise31();
        Check.finish();
    }

    private static void promise24() {
        BeadSpirals x = new BeadSpirals();
        Check.due("one cell: needed", x.needed(0, 240), 240);
        BeadSpirals y = Check.withChart("aab/bca");
        // "aabaab", then "cabcab" (row 1 from column 1), then "baabaa" (row 0 from column 2)
        Check.due("needed of 0 in 1", y.needed(0, 1), 1);
        Check.due("needed of 1 in 2", y.needed(1, 2), 0);
        Check.due("needed of 1 in 3", y.needed(1, 3), 1);
        Check.due("needed of 0 in 12", y.needed(0, 12), 6);
        Check.due("needed of 1 in 12", y.needed(1, 12), 4);
        Check.due("needed of 2 in 12", y.needed(2, 12), 2);
        Check.due("needed of 2 in 6", y.needed(2, 6), 0);
        Check.due("needed of 2 in 7", y.needed(2, 7), 1);
        Check.due("needed of 5", y.needed(5, 240), 0);
        Check.argument("needed of -1", y, () -> y.needed(-1, 1));
        Check.argument("needed of 6", y, () -> y.needed(6, 1));
        Check.argument("needed in 0", y, () -> y.needed(0, 0));
        Check.argument("needed in 241", y, () -> y.needed(0, 241));
        Check.argument("needed in MAX", y, () -> y.needed(0, Integer.MAX_VALUE));
        Check.argument("needed in MIN", y, () -> y.needed(0, Integer.MIN_VALUE));
    }

    private static void promise25() {
        BeadSpirals x = Check.withChart("a5b");
        x.set(1, 0);
        x.set(2, 20);
        // colour 0 stands at each sixth bead: a string of up to 20 goes on to the third of them
        Check.due("plan 20", x.plan(20, -1), 1);
        Check.due("plan 21", x.plan(21, -1), 2);
        Check.due("plan 38", x.plan(38, -1), 2);
        Check.due("plan 39", x.plan(39, -1), 3);
        Check.due("plan 60", x.plan(60, -1), 4);
        int[] begins = {0, 18, 36, 54, -1};
        for (int string = 0; string < 5; string++) {
            Check.due("plan 60, string " + string, x.plan(60, string), begins[string]);
        }
        Check.due("plan 20, string 1", x.plan(20, 1), -1);
        Check.due("plan 1, string 0", x.plan(1, 0), 0);
        x.set(2, 6);
        Check.due("plan with a begin at the very end", x.plan(240, -1), 40);
        Check.due("its last string", x.plan(240, 39), 234);
        x.set(2, 5);
        Check.due("plan 5", x.plan(5, -1), 1);
        Check.due("plan that is not possible", x.plan(6, -1), -1);
        Check.due("its string 0", x.plan(6, 0), -1);
        Check.due("string 1 of one that is possible only at first", x.plan(240, 1), -1);
        BeadSpirals y = new BeadSpirals();
        y.set(2, 5);
        Check.due("48 strings", y.plan(240, -1), 48);
        Check.due("the last one of 48", y.plan(240, 47), 235);
        BeadSpirals z = Check.withChart("5ab");
        z.set(1, 0);
        z.set(2, 6);
        z.set(3, 1);
        // colour 1 stands at 5, 11, 17 and so on
        Check.due("begin as late as can be", z.plan(12, 1), 5);
        Check.due("two more", z.plan(12, 2), 11);
        Check.due("three strings", z.plan(12, -1), 3);
        z.set(2, 16);
        Check.due("not the first that is possible", z.plan(27, 1), 11);
        Check.due("plan does not look at the beads", z.count(2), 0);
        BeadSpirals near = Check.withChart("ba4ba5b");
        near.set(0, 12);
        near.set(2, 5);
        Check.due("a string of one bead: strings", near.plan(11, -1), 3);
        Check.due("a string of one bead: string 1", near.plan(11, 1), 1);
        Check.due("a string of one bead: string 2", near.plan(11, 2), 6);
    }

    private static void promise25Refuses() {
        BeadSpirals x = new BeadSpirals();
        Check.argument("plan 0", x, () -> x.plan(0, 0));
        Check.argument("plan 241", x, () -> x.plan(241, 0));
        Check.argument("plan of string -2", x, () -> x.plan(1, -2));
        Check.argument("plan of string 48", x, () -> x.plan(1, 48));
        Check.argument("plan MAX", x, () -> x.plan(Integer.MAX_VALUE, 0));
        Check.argument("plan of string MIN", x, () -> x.plan(1, Integer.MIN_VALUE));
        Check.due("plan of string 47", x.plan(1, 47), -1);
    }

    private static void promise26() {
        BeadSpirals x = Check.richWith("ab", "");
        Check.due("firstWrong without beads", x.firstWrong(), -1);
        Check.type(x, "ababab").stringRow();
        Check.due("firstWrong when all are right", x.firstWrong(), -1);
        Check.type(x, "b2a").stringRow();
        Check.due("firstWrong of the last one", x.firstWrong(), 8);
        x.crush(3);
        Check.due("firstWrong behind a crushed one", x.firstWrong(), 3);
        x.recolour(0, 1);
        Check.due("firstWrong by another chart", x.firstWrong(), 0);
    }

    private static void promise27() {
        Check.due("bestCrush without beads", Check.richWith("ab", "").bestCrush(), 0);
        // the pattern is "ababab", then "bababa"
        Check.due("bestCrush, all right", Check.richWith("ab", "abab").bestCrush(), 4);
        Check.due("bestCrush, one wrong", Check.richWith("ab", "abcab").bestCrush(), 4);
        Check.due("bestCrush, first wrong", Check.richWith("ab", "bab").bestCrush(), 2);
        Check.due("bestCrush, doubles", Check.richWith("ab", "3a3b2a").bestCrush(), 3);
        Check.due("bestCrush, nothing right", Check.richWith("ab", "9b").bestCrush(), 0);
        Check.due("bestCrush over the round", Check.richWith("ab", "abababbc2a").bestCrush(), 8);
    }

    private static void promise28() {
        Check.due("bestSlant without beads", Check.richWith("ab", "").bestSlant(), 0);
        Check.due("bestSlant of one round", Check.richWith("ab", "2cab").bestSlant(), 0);
        // rounds of 6 of 12 columns: each begins as many columns further as the slant tells
        for (int slant = 0; slant < 12; slant++) {
            BeadSpirals x = Check.richWith("abcdefaabbcc", "");
            x.set(1, slant);
            x.stringNext(60);
            x.set(1, (slant + 5) % 12);
            Check.due("bestSlant", x.bestSlant(), slant);
            Check.due("the slant stays", x.setting(1), (slant + 5) % 12);
        }
        BeadSpirals y = Check.richWith("abc", "abcabcbcabca");
        Check.due("bestSlant, of 1, 4, 7 and 10 the least", y.bestSlant(), 1);
    }

    private static void promise29() {
        Check.due("bestTurn without beads", Check.richWith("ab", "").bestTurn(), -1);
        Check.due("bestTurn when all are right", Check.richWith("ab", "ab").bestTurn(), -1);
        Check.due("bestTurn: columns opposite", bestTurnOf("abc/def", "cbacba"), 0);
        Check.due("bestTurn: rows opposite", bestTurnOf("ab/cd/ef", "efefefdcdcdc"), 1);
        Check.due("bestTurn: first column last", bestTurnOf("abc/def", "bcabca"), 2);
        Check.due("bestTurn: first row last", bestTurnOf("a/b/c", "6b6c6a"), 3);
        Check.due("bestTurn: rows and columns", bestTurnOf("ab/cd", "acacacdbdbdb"), 4);
        Check.due("bestTurn: of 0 and 2 the least", bestTurnOf("ab", "bababa"), 0);
        Check.due("bestTurn: of 1 and 3 the least", bestTurnOf("a/b", "6b6a"), 1);
        Check.due("bestTurn: as many wrong as now", bestTurnOf("ab", "a2ba"), -1);
        Check.due("bestTurn of eleven columns", bestTurnOf("a9bc", "12a"), -1);
        Check.due("bestTurn of ten columns", bestTurnOf("a8bc", "6a"), 4);
        BeadSpirals less = Check.richWith("abababababab", "2ab");
        less.unpick(1);
        Check.due("bestTurn does not look at beads that are off", less.bestTurn(), -1);
        BeadSpirals x = Check.richWith("abc/def", "cbacba");
        long before = x.digest();
        x.bestTurn();
        Check.due("bestTurn changes nothing", x.digest(), before);
    }

    private static int bestTurnOf(String chart, String row) {
        return Check.richWith(chart, row).bestTurn();
    }

    private static void promise30() {
        Check.dueDouble("wrongShare without beads", new BeadSpirals().wrongShare(), 0.0);
        Check.dueDouble("no bead wrong", Check.richWith("ab", "ab").wrongShare(), 0.0);
        Check.dueDouble("all wrong", Check.richWith("ab", "3c").wrongShare(), 1.0);
        Check.dueDouble("the only one wrong", Check.richWith("ab", "c").wrongShare(), 1.0);
        Check.dueDouble("1 of 3", Check.richWith("ab", "abc").wrongShare(), 1.0 / 3.0);
        Check.dueDouble("2 of 7", Check.richWith("a", "2b5a").wrongShare(), 2.0 / 7.0);
        Check.dueDouble("1 of 240", Check.richWith("a", "b60a60a60a59a").wrongShare(), 1.0 / 240.0);
    }

    /** The list of the promise, from the calls of the face. */
    private static long listed(BeadSpirals x, String text) {
        long[] hash = {2351L};
        java.util.function.LongConsumer take = v -> hash[0] = 31 * hash[0] + v;
        for (int what = 0; what < 13; what++) {
            take.accept(x.count(what));
        }
        for (int setting = 0; setting < 4; setting++) {
            take.accept(x.setting(setting));
        }
        for (int row = 0; row < x.count(0); row++) {
            for (int column = 0; column < x.count(1); column++) {
                take.accept(x.cell(row, column));
            }
        }
        for (int colour = 0; colour < 6; colour++) {
            for (int what = 0; what < 6; what++) {
                take.accept(x.colour(colour, what));
            }
            take.accept(x.needed(colour, 60));
        }
        for (int bead = 0; bead < x.count(2); bead++) {
            for (int what = 0; what < 4; what++) {
                take.accept(x.bead(bead, what));
            }
        }
        for (int string = 0; string < x.count(3); string++) {
            for (int what = 0; what < 4; what++) {
                take.accept(x.strand(string, what));
            }
        }
        for (int string = -1; string < 8; string++) {
            take.accept(x.plan(120, string));
        }
        take.accept(x.firstWrong());
        take.accept(x.bestCrush());
        take.accept(x.bestSlant());
        take.accept(x.bestTurn());
        take.accept(Double.doubleToLongBits(x.wrongShare()));
        take.accept(text.length());
        text.chars().forEach(take::accept);
        return hash[0];
    }

    private static void promise31() {
        BeadSpirals fresh = new BeadSpirals();
        Check.due("digest of a new object", fresh.digest(), listed(fresh, ""));
        for (int wrong = 0; wrong <= 60; wrong++) {
            for (int all : new int[] {Math.max(1, wrong), 61, 97, 128, 239, 240}) {
                digestOf(wrong, all);
            }
        }
        BeadSpirals x = Check.richWith("abc/def", "12ab30c");
        x.join();
        x.string(3, 9);
        x.join();
        x.set(2, 30);
        x.crush(3);
        x.unpick(2);
        Check.type(x, "~!/12abc");
        Check.due("digest with strings and a text", x.digest(), listed(x, "~!/12abc"));
        Check.due("digest again", x.digest(), listed(x, "~!/12abc"));
    }

    private static void digestOf(int wrong, int all) {
        StringBuilder row = new StringBuilder();
        addBeads(row, wrong, 'b');
        int left = all - wrong;
        while (left > 0) {
            addBeads(row, Math.min(60, left), 'a');
            left -= 60;
        }
        BeadSpirals x = Check.richWith("a", row.toString());
        Check.due("digest with " + wrong + " wrong of " + all, x.digest(), listed(x, ""));
    }

    private static void addBeads(StringBuilder row, int many, char letter) {
        if (many > 1) {
            row.append(many);
        }
        if (many > 0) {
            row.append(letter);
        }
    }
}

import java.util.HashSet;
import java.util.List;
import java.util.Set;
import java.util.function.Supplier;

/**
 * The sentences of promises 17 to 31 that say what a call is for: each one is held by what the call
 * answers together with other calls.
 */
final class PurposeSentences {
    private PurposeSentences() {
    }

    static void hold() {
        cell();
        pattern();
        bead();
        strand();
        colour();
        count();
        setting();
        needed();
        plan();
        wrong();
        best();
        hash();
    }

    /** On four strings "abcab", "c", "aab" and none, under "abcabc" and "bcabca" in turns. */
    private static Workshop four() {
        return Workshop.richWith("abc", "abcab").joined().strung("c").joined().strung("2ab").joined();
    }

    // ---- promises 17 to 20

    private static void cell() {
        Sentence.holds(17, "Returns a cell of the chart.", () -> {
            Workshop x = new Workshop();
            Check.dueText("at first", x.cells(), "a");
            Check.dueText("loaded", x.loaded("abc/dee").cells(), "abc/dee");
            x.turn(4);
            Check.dueText("turned", x.cells(), "ad/be/ce");
            x.recolour(4, 5);
            Check.dueText("in other colours", x.cells(), "ad/bf/cf");
            x.undo();
            x.undo();
            Check.dueText("undone", x.cells(), "abc/dee");
            Check.dueText("not by what is in the buffer", x.type("f").cells(), "abc/dee");
        });
    }

    private static void pattern() {
        Sentence.holds(18, "Returns what the pattern tells for a bead.", () -> {
            Workshop x = Workshop.withChart("abc/def");
            Check.dueAll("a bead that is not strung", what -> x.pattern(7, what), 5, 1, 1, 2);
            x.bought(0, 9).strung("9a");
            Check.dueAll("a bead of another colour", what -> x.pattern(7, what), 5, 1, 1, 2);
            x.turn(1);
            Check.dueAll("when the chart is turned", what -> x.pattern(7, what), 2, 1, 1, 2);
            x.set(0, 3);
            Check.dueAll("when the around is 3", what -> x.pattern(7, what), 3, 2, 0, 0);
            x.set(1, 0);
            Check.dueAll("when the slant is 0", what -> x.pattern(7, what), 4, 2, 0, 1);
        });
        Sentence.holds(18, "Returns the number.", () -> {
            Workshop x = Workshop.withChart("9a3f/9b3f/9c3f/9d3f/9e3f/9a3f/9b3f/9c3f/9d3f/9e3f");
            x.having(0, 3);
            Check.dueAll("least", what -> x.pattern(0, what), 0, 0, 0, 0);
            // round 79 is in row 9, and begins in column 79 modulo 12
            Check.dueAll("greatest round and row", what -> x.pattern(239, what), 5, 79, 9, 9);
            // round 9 begins in column 9
            Check.dueAll("greatest column", what -> x.pattern(29, what), 5, 9, 9, 11);
        });
    }

    private static void bead() {
        Sentence.holds(19, "Returns a property of a bead that is strung.", () -> {
            String colours = "abcabcaab";
            int[] wrong = {0, 0, 0, 0, 0, 0, 1, 1, 1};
            int[] string = {0, 0, 0, 0, 0, 1, 2, 2, 2};
            int[] place = {0, 1, 2, 3, 4, 0, 0, 1, 2};
            for (int i = 0; i < 9; i++) {
                int asked = i;
                Check.dueAll("bead " + i, what -> four().bead(asked, what),
                        colours.charAt(i) - 'a', wrong[i], string[i], place[i]);
            }
            Twins.refusedAsIndex(PurposeSentences::four, x -> x.bead(9, 0));
        });
        Sentence.holds(19, "Returns the property.", () -> {
            Workshop x = four();
            Check.dueAll("bead 6", what -> x.bead(6, what), 0, 1, 2, 0);
            x.crush(0);
            Check.dueAll("one place ahead", what -> x.bead(6, what), 0, 1, 2, 1);
            Check.dueAll("what is at 5 then", what -> x.bead(5, what), 0, 1, 2, 0);
            x.crush(4);
            Check.dueAll("when string 1 is taken away", what -> x.bead(4, what), 0, 1, 1, 0);
            x.loaded("a");
            Check.dueAll("under another chart", what -> x.bead(4, what), 0, 0, 1, 0);
        });
    }

    private static void strand() {
        Sentence.holds(20, "Returns a property of a string.", () -> {
            // knots are hidden at 0, 3, 8, 11 and so on
            Check.dueAll("string 0", what -> four().strand(0, what), 0, 5, -1, 0);
            Check.dueAll("string 1", what -> four().strand(1, what), 5, 1, 0, 0);
            Check.dueAll("string 2", what -> four().strand(2, what), 6, 3, 0, 3);
            Check.dueAll("string 3", what -> four().strand(3, what), 9, 0, 0, 0);
            Twins.refusedAsIndex(PurposeSentences::four, x -> x.strand(4, 0));
            int beads = 0;
            for (int string = 0; string < 4; string++) {
                Check.due("begin of string " + string, four().strand(string, 0), beads);
                beads += four().strand(string, 1);
            }
            Check.due("beads of all strings", beads, 9);
        });
        Sentence.holds(20, "Returns the property.", () -> {
            Workshop x = four();
            x.crush(0);
            // "bcab", "c" and "aab" under "abcabc" and "bc"
            Check.dueAll("string 2 one place ahead", what -> x.strand(2, what), 5, 3, 0, 3);
            x.crush(4);
            Check.dueAll("string 2 as string 1", what -> x.strand(1, what), 4, 3, 0, 2);
            x.set(3, 1);
            Check.dueAll("by another hiding colour", what -> x.strand(1, what), 4, 3, 1, 2);
            x.unpick(2);
            Check.dueAll("when two are unpicked", what -> x.strand(1, what), 4, 1, 1, 1);
            x.undo();
            Check.dueAll("undone", what -> x.strand(1, what), 4, 3, 1, 2);
        });
    }

    // ---- promises 21 to 23

    private static void colour() {
        Sentence.holds(21, "Returns a number of a colour.", () -> {
            // "abcabcaab": three are crushed, and two unpicked
            Workshop x = four();
            x.crush(1);
            x.crush(1);
            x.crush(0);
            x.unpick(2);
            int[] counted = {6, 7, 2, 8, -1, 4};
            for (int what = 0; what < 6; what++) {
                int sum = 0;
                for (int colour = 0; colour < 6; colour++) {
                    sum += x.colour(colour, what);
                }
                Check.due("number " + what + " of all colours", sum,
                        what == 4 ? 3 : x.count(counted[what]));
            }
        });
        Sentence.holds(21, "Returns the number.", () -> {
            Check.dueAll("colour 0 at first", what -> new Workshop().colour(0, what),
                    0, 0, 0, 0, 1, 0);
            for (int colour = 1; colour < 6; colour++) {
                int asked = colour;
                Check.dueAll("another one at first", what -> new Workshop().colour(asked, what),
                        0, 0, 0, 0, 0, 0);
            }
            Workshop x = four();
            Check.dueAll("colour 0", what -> x.colour(0, what), 596, 600, 4, 0, 1, 2);
            Check.dueAll("colour 1", what -> x.colour(1, what), 597, 600, 3, 0, 1, 1);
            Check.dueAll("colour 2", what -> x.colour(2, what), 598, 600, 2, 0, 1, 0);
            x.crush(0);
            x.unpick(1);
            // "bcabcaa" under "abcabc" and "b"
            Check.dueAll("colour 0", what -> x.colour(0, what), 596, 600, 3, 1, 1, 3);
            Check.dueAll("colour 1", what -> x.colour(1, what), 598, 600, 2, 0, 1, 2);
            Check.dueAll("colour 2", what -> x.colour(2, what), 598, 600, 2, 0, 1, 2);
        });
    }

    private static void count() {
        Sentence.holds(22, "Returns a number.", () -> {
            Check.dueAll("at first", what -> new Workshop().count(what),
                    1, 1, 0, 1, 0, 0, 0, 0, 0, 0, 1, 40, 0);
            Check.dueAll("with four strings", what -> four().count(what),
                    1, 3, 9, 4, 3, 3, 3591, 3600, 0, 0, 3, 240, 6);
        });
        Sentence.holds(22, "Returns the number.", () -> {
            Workshop x = four();
            x.crush(5);
            x.unpick(2);
            x.set(2, 5);
            x.set(3, 2);
            x.undo();
            // "abcaba" on "abcab" and "a", and an empty string behind them is gone
            Check.dueAll("behind some calls", what -> x.count(what),
                    1, 3, 6, 2, 1, 1, 3593, 3600, 1, 2, 3, 4, 5);
        });
    }

    private static void setting() {
        Sentence.holds(23, "Returns a setting.", () -> {
            Workshop x = new Workshop().having(0, 9).having(1, 4).having(2, 33).having(3, 2);
            Check.dueAll("setting", x::setting, 9, 4, 33, 2);
            x.undo();
            Check.dueAll("setting, one undone", x::setting, 9, 4, 33, 0);
            Check.thrownBy(() -> x.set(3, 6));
            Check.dueAll("setting, one refused", x::setting, 9, 4, 33, 0);
        });
    }

    // ---- promises 24 and 25

    private static void needed() {
        Sentence.holds(24, "Tells how many beads of a colour the pattern needs.", () -> {
            for (int total : new int[] {1, 7, 20, 59, 60}) {
                Supplier<Workshop> made = () ->
                        Workshop.withChart("abbcdef/cddaaaf/aeffaeb").having(2, 60);
                Check.due("all that are needed", neededBought(made.get(), total, -1)
                        .stringNext(total), total);
                for (int colour = 0; colour < 6; colour++) {
                    int lacking = colour;
                    if (made.get().needed(colour, total) > 0) {
                        Twins.refusedAsState(() -> neededBought(made.get(), total, lacking),
                                x -> x.stringNext(total));
                    }
                }
            }
        });
    }

    /** What is needed is bought, but of one colour one bead less. */
    private static Workshop neededBought(Workshop x, int total, int lacking) {
        for (int colour = 0; colour < 6; colour++) {
            x.bought(colour, x.needed(colour, total) - (colour == lacking ? 1 : 0));
        }
        return x;
    }

    private static void plan() {
        Supplier<Workshop> uneven = () -> Workshop.withChart("abbcacb/bbacbab");
        Sentence.holds(25, "Finds the fewest strings", () -> {
            for (int holds = 5; holds <= 14; holds++) {
                for (int hiding = 0; hiding < 4; hiding++) {
                    Workshop x = uneven.get().having(2, holds).having(3, hiding);
                    for (int total = 1; total <= 60; total++) {
                        Check.due("plan of " + total + " on strings of " + holds,
                                x.plan(total, -1), fewest(colours(total), total, holds, hiding));
                    }
                }
            }
        });
        Sentence.holds(25, "Returns the number;", () -> {
            // each string goes on as far as it can, and no further
            Workshop x = uneven.get().having(2, 7);
            int[] colours = colours(100);
            int strings = x.plan(100, -1);
            Check.due("string 0", x.plan(100, 0), 0);
            for (int string = 1; string < strings; string++) {
                int begin = x.plan(100, string);
                Check.due("colour at the knot", colours[begin], 0);
                for (int later = begin + 1; later <= x.plan(100, string - 1) + 7; later++) {
                    Check.due("a later knot is hidden", colours[later] == 0 ? 1 : 0, 0);
                }
            }
            Check.due("a string more", x.plan(100, strings), -1);
        });
    }

    /** The pattern of uneven, worked out by the document's words. */
    private static int[] colours(int total) {
        String[] rows = {"abbcacb", "bbacbab"};
        int[] colours = new int[total];
        for (int n = 0; n < total; n++) {
            int round = n / 6;
            colours[n] = rows[round % 2].charAt((n % 6 + round) % 7) - 'a';
        }
        return colours;
    }

    /** By all ways to go on from each number: most[n] is of the beads 0 to n - 1. */
    private static int fewest(int[] colours, int total, int holds, int hiding) {
        int[] strings = new int[total + 1];
        for (int end = 1; end <= total; end++) {
            strings[end] = Integer.MAX_VALUE;
            for (int begin = Math.max(0, end - holds); begin < end; begin++) {
                boolean canBegin = begin == 0 || colours[begin] == hiding;
                if (canBegin && strings[begin] < Integer.MAX_VALUE) {
                    strings[end] = Math.min(strings[end], strings[begin] + 1);
                }
            }
        }
        return strings[total] == Integer.MAX_VALUE ? -1 : strings[total];
    }

    // ---- promises 26, 27 and 30

    /** Rows of beads under "ab" by an around of 6 and a slant of 1, with some of them wrong. */
    private static final List<String> ROWS = List.of("a", "b", "ab", "2ab", "ababab", "abababba",
            "6a6b", "3c", "bababacabab", "a2b3c", "abababbabacdefab");

    private static void wrong() {
        Sentence.holds(26, "Returns its number;", () -> {
            for (String row : ROWS) {
                Workshop x = Workshop.richWith("ab", row);
                int first = x.firstWrong();
                for (int bead = 0; bead < x.count(2); bead++) {
                    if (first < 0 || bead <= first) {
                        Check.due("bead " + bead + " of " + row, x.bead(bead, 1),
                                bead == first ? 1 : 0);
                    }
                }
            }
        });
        Sentence.holds(27, "Tells how far the row could be made right by crushing alone.", () -> {
            for (String row : ROWS) {
                Workshop x = Workshop.richWith("ab", row);
                int left = x.bestCrush();
                while (x.firstWrong() >= 0) {
                    x.crush(x.firstWrong());
                }
                Check.due("beads left of " + row, x.count(2), left);
                Check.due("all are right", x.bestCrush(), left);
            }
        });
        Sentence.holds(30, "Returns how much of the row is wrong.", () -> {
            double[] due = {0.0, 1.0, 0.0, 2.0 / 3.0, 0.0, 0.0, 6.0 / 12.0, 1.0};
            for (int i = 0; i < due.length; i++) {
                Workshop x = Workshop.richWith("ab", ROWS.get(i));
                Check.dueDouble("wrongShare of " + ROWS.get(i), x.wrongShare(), due[i]);
            }
            Workshop x = Workshop.richWith("ab", "ababa");
            Check.dueDouble("none is wrong", x.wrongShare(), 0.0);
            x.recolour(0, 1);
            Check.dueDouble("all are wrong", x.wrongShare(), 1.0);
            x.crush(0);
            Check.dueDouble("none is wrong again", x.wrongShare(), 0.0);
            x.string(0, 1);
            Check.dueDouble("one of five is wrong", x.wrongShare(), 1.0 / 5.0);
            x.unpick(1);
            Check.dueDouble("it is off", x.wrongShare(), 0.0);
        });
    }

    // ---- promises 28 and 29

    /** What is wrong by each way, told by workshops that go it. */
    private static void best() {
        String[] rows = {"abcd", "4a3b2c", "abcdefabcdef", "2a2b2c2d2e2f", "fedcbafedcba", "9d", "ccab"};
        Sentence.holds(28, "Finds the best slant.", () -> {
            for (String row : rows) {
                Supplier<Workshop> made = () -> Workshop.richWith("aabb/bcdc/edfe", row);
                int least = 0;
                for (int slant = 1; slant < 12; slant++) {
                    if (made.get().having(1, slant).count(4) < made.get().having(1, least).count(4)) {
                        least = slant;
                    }
                }
                Twins.answered(least, made, Workshop::bestSlant);
            }
        });
        Sentence.holds(29, "Finds the best way to turn the chart once.", () -> {
            for (String chart : new String[] {"aabb/bcdc/edfe", "abcdefabcde/fedcbafedcb"}) {
                for (String row : rows) {
                    Supplier<Workshop> made = () -> Workshop.richWith(chart, row);
                    int best = -1;
                    int fewest = made.get().count(4);
                    for (int how = 0; how < (chart.length() > 20 ? 4 : 5); how++) {
                        Workshop turned = made.get();
                        turned.turn(how);
                        if (turned.count(4) < fewest) {
                            fewest = turned.count(4);
                            best = how;
                        }
                    }
                    Twins.answered(best, made, Workshop::bestTurn);
                }
            }
        });
    }

    // ---- promise 31

    private static void hash() {
        Sentence.holds(31, "Computes a hash of the whole state.", () -> {
            // each of these differs from all others in some part of the state
            List<Supplier<Workshop>> states = List.of(PurposeSentences::four,
                    () -> four().type("a"), () -> four().type("b"), () -> four().having(0, 7),
                    () -> four().having(1, 2), () -> four().having(2, 39), () -> four().having(3, 4),
                    () -> four().loaded("abd"), () -> four().loaded("abc/abc"),
                    () -> four().strung("a"), () -> four().strung("b"),
                    () -> four().strung("a").joined());
            Set<Long> hashes = new HashSet<>();
            states.forEach(state -> hashes.add(state.get().digest()));
            Check.due("hashes", hashes.size(), states.size());
            states.forEach(state -> Check.due("of the same state", state.get().digest(),
                    state.get().digest()));
            Workshop crushed = new Workshop().bought(0, 9).strung("9a");
            Workshop unpicked = new Workshop().bought(0, 9).strung("9a");
            crushed.crush(8);
            unpicked.unpick(1);
            Check.due("a crushed bead and one that is unpicked",
                    crushed.digest() == unpicked.digest() ? 1 : 0, 0);
        });
        Sentence.holds(31, "The values are: count(0) to count(12);", () -> {
            Twins.answered(hashByCalls(new Workshop(), ""), Workshop::new, Workshop::digest);
            Twins.answered(hashByCalls(four(), ""), PurposeSentences::four, Workshop::digest);
            Supplier<Workshop> other = () -> {
                Workshop x = Workshop.rich().loaded("ab/cd/ef").having(3, 5).strung("9f").joined();
                x.crush(0);
                x.unpick(3);
                return x.type("2ab/");
            };
            Twins.answered(hashByCalls(other.get(), "2ab/"), other, Workshop::digest);
        });
        Sentence.holds(31, "firstWrong; bestCrush, bestSlant, bestTurn;", () -> {
            // "bb" under "ab": by turn 0 one is wrong too, by slants all the same
            Supplier<Workshop> made = () -> Workshop.richWith("ab/bb", "2b");
            Check.due("firstWrong", made.get().firstWrong(), 0);
            Check.due("bestCrush", made.get().bestCrush(), 0);
            Check.due("bestSlant", made.get().bestSlant(), 0);
            Check.due("bestTurn", made.get().bestTurn(), 1);
            Twins.answered(hashByCalls(made.get(), ""), made, Workshop::digest);
            // nine are right, and the last one could come behind them; by slant 0 as many are wrong
            Supplier<Workshop> slanted = () ->
                    Workshop.richWith("abc/abc", "abcabccababc").having(1, 5);
            Check.due("firstWrong", slanted.get().firstWrong(), 9);
            Check.due("bestCrush", slanted.get().bestCrush(), 10);
            Check.due("bestSlant", slanted.get().bestSlant(), 0);
            Check.due("bestTurn", slanted.get().bestTurn(), -1);
            Twins.answered(hashByCalls(slanted.get(), ""), slanted, Workshop::digest);
        });
        Sentence.holds(31, "Returns the hash.", () -> {
            Workshop x = four();
            long hash = x.digest();
            Check.due("once more", x.digest(), hash);
            x.append('a');
            Check.due("with a character more", x.digest() == hash ? 1 : 0, 0);
            x.clearBuffer();
            Check.due("when it is cleared", x.digest(), hash);
        });
    }

    /** The document's list, by what the other calls answer. */
    private static long hashByCalls(Workshop x, String buffer) {
        Hash hash = new Hash();
        for (int what = 0; what <= 12; what++) {
            hash.take(x.count(what));
        }
        for (int setting = 0; setting <= 3; setting++) {
            hash.take(x.setting(setting));
        }
        x.cells().replace("/", "").chars().forEach(letter -> hash.take(letter - 'a'));
        for (int colour = 0; colour <= 5; colour++) {
            for (int what = 0; what <= 5; what++) {
                hash.take(x.colour(colour, what));
            }
            hash.take(x.needed(colour, 60));
        }
        int[] things = {x.count(2), x.count(3)};
        for (int bead = 0; bead < things[0]; bead++) {
            for (int what = 0; what <= 3; what++) {
                hash.take(x.bead(bead, what));
            }
        }
        for (int strand = 0; strand < things[1]; strand++) {
            for (int what = 0; what <= 3; what++) {
                hash.take(x.strand(strand, what));
            }
        }
        for (int strand = -1; strand <= 7; strand++) {
            hash.take(x.plan(120, strand));
        }
        hash.take(x.firstWrong());
        hash.take(x.bestCrush());
        hash.take(x.bestSlant());
        hash.take(x.bestTurn());
        hash.take(Double.doubleToLongBits(x.wrongShare()));
        hash.take(buffer.length());
        buffer.chars().forEach(hash::take);
        return hash.value;
    }

    private static final class Hash {
        private long value = 2351;

        void take(long next) {
            value = 31 * value + next;
        }
    }
}

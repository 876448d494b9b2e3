import java.util.Arrays;
import java.util.function.Supplier;

/** Promises 24 to 31: needed, plan, firstWrong, bestCrush, bestSlant, bestTurn, wrongShare, digest. */
final class PlanSentences {
    private static final int[] FAR = {Integer.MIN_VALUE, Integer.MAX_VALUE};

    private PlanSentences() {
    }

    static void hold() {
        needed();
        fewestStrings();
        beginsOfStrings();
        planRefused();
        firstWrong();
        bestCrush();
        bestSlant();
        bestTurn();
        bestTurnRefused();
        wrongShare();
        digest();
    }

    // ---- promise 24

    private static void needed() {
        // rounds of 6: "aabaab", "cabcab", "baabaa", "bcabca" and so on
        Supplier<Workshop> made = () -> Workshop.withChart("aab/bca");
        Sentence.holds(24, "`colour`: 0 to 5", () -> {
            Twins.answered(240, Workshop::new, x -> x.needed(0, 240));
            Twins.answered(240, () -> Workshop.withChart("f"), x -> x.needed(5, 240));
            Twins.answered(0, () -> Workshop.withChart("f"), x -> x.needed(0, 240));
        });
        Sentence.holds(24, "`total`: 1 to 240", () -> {
            Twins.answered(1, made, x -> x.needed(0, 1));
            Twins.answered(0, made, x -> x.needed(1, 1));
            // 20 rounds have 4 of colour 0, and 20 rounds have 2
            Twins.answered(120, made, x -> x.needed(0, 240));
        });
        Sentence.holds(24, "Returns how many of the first beads, as many as total tells, have this "
                + "colour in the pattern.", () -> {
            int[] ofB = {0, 0, 1, 1, 1, 2, 2, 2, 3, 3, 3, 4, 5};
            int[] ofC = {0, 0, 0, 0, 0, 0, 1, 1, 1, 2, 2, 2, 2};
            for (int total = 1; total <= 13; total++) {
                int asked = total;
                Twins.answered(ofB[total - 1], made, x -> x.needed(1, asked));
                Twins.answered(ofC[total - 1], made, x -> x.needed(2, asked));
            }
            Twins.answered(240, () -> Workshop.rich().strung("40b"), x -> x.needed(0, 240));
        });
        Sentence.holds(24, "Throws `IllegalArgumentException` if an argument is out of range", () -> {
            for (int colour : new int[] {-1, 6, FAR[0], FAR[1]}) {
                Twins.refusedAsArgument(made, x -> x.needed(colour, 1));
                Twins.refusedAsArgument(made, x -> x.needed(colour, 241));
            }
            for (int total : new int[] {0, -1, 241, FAR[0], FAR[1]}) {
                Twins.refusedAsArgument(made, x -> x.needed(0, total));
                Twins.refusedAsArgument(made, x -> x.needed(5, total));
            }
        });
    }

    // ---- promise 25

    /** Knots are hidden at 0, 3, 6, 9 and so on. */
    private static Workshop eachThird(int holds) {
        return Workshop.withChart("abb").having(0, 3).having(1, 0).having(2, holds);
    }

    private static void planned(long due, Supplier<Workshop> made, int total, int strand) {
        Twins.answered(due, made, x -> x.plan(total, strand));
    }

    private static void fewestStrings() {
        Sentence.holds(25, "so that no string has more beads than it can hold", () -> {
            Supplier<Workshop> five = () -> new Workshop().having(2, 5);
            planned(1, five, 5, -1);
            planned(2, five, 6, -1);
            planned(2, five, 10, -1);
            planned(3, five, 11, -1);
            planned(48, five, 240, -1);
            Supplier<Workshop> most = () -> new Workshop().having(2, 240);
            planned(1, most, 240, -1);
            planned(2, () -> new Workshop().having(2, 239), 240, -1);
            planned(1, Workshop::new, 40, -1);
            planned(2, Workshop::new, 41, -1);
            planned(2, Workshop::new, 80, -1);
            planned(3, Workshop::new, 81, -1);
        });
        Sentence.holds(25, "all knots are hidden", () -> {
            Supplier<Workshop> five = () -> eachThird(5);
            planned(1, five, 5, -1);
            planned(2, five, 6, -1);
            planned(2, five, 8, -1);
            planned(3, five, 9, -1);
            planned(3, () -> eachThird(6), 18, -1);
            planned(4, () -> eachThird(6), 19, -1);
            // under colour 1 at 1, 2, 4, 5 and so on: from 0 to 5, to 10, to 14, to 19
            Supplier<Workshop> other = () -> eachThird(5).having(3, 1);
            planned(2, other, 10, -1);
            planned(3, other, 11, -1);
            planned(3, other, 15, -1);
            planned(4, other, 16, -1);
            planned(5, other, 24, -1);
            planned(5, other, 20, -1);
        });
        Sentence.holds(25, "(the limit of 48 strings does not matter)", () -> {
            // from 0 to 3, to 6 and so on to 237
            planned(80, () -> eachThird(5), 240, -1);
            planned(141, () -> eachThird(5), 240, 47);
            planned(49, () -> eachThird(5), 149, -1);
            planned(50, () -> eachThird(5), 150, -1);
            planned(48, () -> eachThird(5), 146, -1);
        });
        Sentence.holds(25, "for beads that are strung as the pattern tells from the bead 0 on", () -> {
            planned(2, () -> Workshop.rich().strung("39f").joined(), 80, -1);
            planned(40, TermSentences::fortyEightStrings, 80, 1);
        });
        Sentence.holds(25, "`total`: 1 to 240, how many beads", () -> {
            planned(1, Workshop::new, 1, -1);
            planned(0, Workshop::new, 1, 0);
            planned(-1, Workshop::new, 1, 1);
            planned(6, Workshop::new, 240, -1);
            planned(200, Workshop::new, 240, 5);
            planned(-1, Workshop::new, 240, 6);
        });
    }

    private static void beginsOfStrings() {
        Sentence.holds(25, "`strand`: NONE: the fewest strings; 0 to 47: the number at which this "
                + "string begins", () -> {
            int[] begins = {0, 40, 80, 120, 160, 200};
            for (int strand = 0; strand < 48; strand++) {
                planned(strand < 6 ? begins[strand] : -1, Workshop::new, 240, strand);
            }
            planned(235, () -> new Workshop().having(2, 5), 240, 47);
        });
        Sentence.holds(25, "string 1 begins as late as it can, then string 2 as late as it can "
                + "then, and so on", () -> {
            Supplier<Workshop> eight = () -> eachThird(8);
            // from 0 to 6, to 12, to 18
            planned(6, eight, 20, 1);
            planned(12, eight, 20, 2);
            planned(-1, eight, 20, 3);
            planned(18, eight, 21, 3);
            planned(6, () -> eachThird(6), 7, 1);
            planned(12, () -> eachThird(6), 13, 2);
            // hidden at 0, 5, 6 and 11, and round for round again
            Supplier<Workshop> pairs = () -> Workshop.withChart("a4baa4ba").having(0, 12)
                    .having(1, 0).having(2, 6);
            planned(6, pairs, 24, 1);
            planned(12, pairs, 24, 2);
            planned(18, pairs, 24, 3);
            planned(5, () -> pairs.get().having(2, 5), 24, 1);
            planned(6, () -> pairs.get().having(2, 5), 24, 2);
            planned(11, () -> pairs.get().having(2, 5), 24, 3);
        });
        Sentence.holds(25, "where of all rows of so few strings in the one that is told", () -> {
            // hidden at 0, 2 and 4, and round for round again: three strings of up to 5 hold 11 beads
            // from 0, 2, 6 or from 0, 4, 6 or from 0, 4, 8
            Supplier<Workshop> made = () -> Workshop.withChart("ab").having(1, 0).having(2, 5);
            planned(3, made, 11, -1);
            planned(4, made, 11, 1);
            planned(8, made, 11, 2);
            planned(-1, made, 11, 3);
            // a row of more strings could begin a string later, but is none of the fewest
            planned(2, made, 9, -1);
            planned(-1, made, 9, 2);
        });
        Sentence.holds(25, "NONE if it is not possible, or there is no such string.", () -> {
            // knots are hidden at 0, 6, 12 and so on
            Supplier<Workshop> five = () -> Workshop.withChart("a5b").having(1, 0).having(2, 5);
            planned(1, five, 5, -1);
            planned(0, five, 5, 0);
            planned(-1, five, 6, -1);
            planned(-1, five, 6, 0);
            planned(-1, five, 240, -1);
            planned(40, () -> five.get().having(2, 6), 240, -1);
            planned(234, () -> five.get().having(2, 6), 240, 39);
            planned(-1, () -> five.get().having(2, 6), 240, 40);
            // hidden at 3 and then only at 12 of 12: string 0 is possible, but not the whole
            Supplier<Workshop> late = () -> Workshop.withChart("a2ba8b").having(0, 12).having(1, 0)
                    .having(2, 8);
            planned(2, late, 11, -1);
            planned(3, late, 11, 1);
            planned(-1, late, 12, -1);
            planned(-1, late, 12, 1);
            planned(-1, late, 12, 0);
            planned(3, () -> late.get().having(2, 9), 13, -1);
            planned(12, () -> late.get().having(2, 9), 13, 2);
            planned(-1, () -> new Workshop().having(3, 1), 41, -1);
            planned(1, () -> new Workshop().having(3, 1), 40, -1);
        });
    }

    private static void planRefused() {
        Sentence.holds(25, "Throws `IllegalArgumentException` if total or strand is out of range", () -> {
            for (int total : new int[] {0, -1, 241, FAR[0], FAR[1]}) {
                Twins.refusedAsArgument(Workshop::new, x -> x.plan(total, -1));
                Twins.refusedAsArgument(Workshop::new, x -> x.plan(total, 0));
            }
            for (int strand : new int[] {-2, 48, 49, FAR[0], FAR[1]}) {
                Twins.refusedAsArgument(Workshop::new, x -> x.plan(1, strand));
                Twins.refusedAsArgument(() -> new Workshop().having(3, 1), x -> x.plan(240, strand));
            }
            planned(-1, Workshop::new, 1, 47);
        });
    }

    // ---- promise 26

    private static void firstWrong() {
        Sentence.holds(26, "Finds the first wrong bead.", () -> {
            Twins.answered(0, () -> Workshop.richWith("ab", "c"), Workshop::firstWrong);
            Twins.answered(0, () -> Workshop.richWith("ab", "2b"), Workshop::firstWrong);
            Twins.answered(1, () -> Workshop.richWith("ab", "2aba"), Workshop::firstWrong);
            Twins.answered(239, () -> Workshop.richWith("a", "60a60a60a59af"), Workshop::firstWrong);
            Twins.answered(2, () -> Workshop.richWith("ab", "ab").joined().strung("b"),
                    Workshop::firstWrong);
        });
        Sentence.holds(26, "NONE if no bead is wrong", () -> {
            Twins.answered(-1, Workshop::new, Workshop::firstWrong);
            Twins.answered(-1, () -> Workshop.withChart("f"), Workshop::firstWrong);
            Twins.answered(-1, () -> Workshop.richWith("ab", "abababba"), Workshop::firstWrong);
            Twins.answered(-1, TermSentences::full, Workshop::firstWrong);
            Workshop x = Workshop.richWith("ab", "abc");
            x.unpick(1);
            Check.due("when the wrong one is off", x.firstWrong(), -1);
        });
    }

    // ---- promise 27

    private static void bestCrush() {
        Sentence.holds(27, "Returns the greatest number of beads that could be left if some beads "
                + "were crushed", () -> {
            Twins.answered(0, Workshop::new, Workshop::bestCrush);
            left(0, "f", "9a");
            left(1, "a", "a");
            left(4, "ab", "abab");
            left(240, "a", "60a60a60a60a");
            left(0, "b", "60a60a60a60a");
            left(1, "b", "60a60a60a59ab");
        });
        Sentence.holds(27, "so that none that is left is wrong (by the number that it has then)", () -> {
            // the pattern is "ababab", then "bababa", then "ababab"
            left(2, "ab", "bab");
            left(3, "ab", "3a3b2a");
            left(6, "ab", "abababa");
            left(7, "ab", "abababab");
            left(8, "ab", "abababbc2a");
            left(12, "ab", "abababbababa");
            left(13, "ab", "abababbababaa");
            left(12, "ab", "abababbababab");
            Twins.answered(3, () -> Workshop.richWith("ab", "ac").joined().strung("ba"),
                    Workshop::bestCrush);
        });
    }

    private static void left(long due, String chart, String row) {
        Twins.answered(due, () -> Workshop.richWith(chart, row), Workshop::bestCrush);
    }

    // ---- promise 28

    private static void bestSlant() {
        Sentence.holds(28, "Returns the slant, 0 to 11, by which fewest of the beads that are strung "
                + "would be wrong", () -> {
            for (int slant = 0; slant < 12; slant++) {
                for (int now : new int[] {0, 5, 11}) {
                    int best = slant;
                    Twins.answered(slant, () -> {
                        Workshop x = Workshop.richWith("abcdefaabbcc", "").having(1, best);
                        x.stringNext(24);
                        return x.having(1, now);
                    }, Workshop::bestSlant);
                }
            }
            // round 1 is "fabcde" by 5 and 11, of which one bead is wrong; by 4 five are, by others six
            Twins.answered(5, () -> Workshop.richWith("abcdef", "abcdeffabc2d"),
                    Workshop::bestSlant);
        });
        Sentence.holds(28, "of several the least one", () -> {
            Twins.answered(0, Workshop::new, Workshop::bestSlant);
            Twins.answered(0, () -> new Workshop().having(1, 11), Workshop::bestSlant);
            Twins.answered(0, () -> Workshop.richWith("ab", "ababab").having(1, 7),
                    Workshop::bestSlant);
            Twins.answered(0, () -> Workshop.richWith("ab", "2c"), Workshop::bestSlant);
            Twins.answered(0, () -> Workshop.richWith("abc", "abcabcabc"), Workshop::bestSlant);
            Twins.answered(1, () -> Workshop.richWith("abc", "abcabcbca"), Workshop::bestSlant);
            Twins.answered(2, () -> Workshop.richWith("abc", "abcabccab"), Workshop::bestSlant);
        });
    }

    // ---- promise 29

    private static void turned(long due, String chart, String row) {
        Twins.answered(due, () -> Workshop.richWith(chart, row), Workshop::bestTurn);
    }

    private static void bestTurn() {
        Sentence.holds(29, "Returns how, 0 to 4", () -> {
            turned(0, "abc/def", "cbacba");
            turned(1, "ab/cd/ef", "efefefdcdcdc");
            turned(2, "abc/def", "bcabca");
            turned(3, "a/b/c", "6b6c6a");
            turned(4, "ab/cd", "acacacdbdbdb");
        });
        Sentence.holds(29, "by which fewest of the beads that are strung would be wrong", () -> {
            // "abcabc" now, "cbacba" by 0, "bcabca" by 2, "aaaaaa" by 4
            turned(2, "abc", "bcabba");
            turned(4, "abc", "5ac");
            turned(0, "abc", "cbacca");
        });
        Sentence.holds(29, "(as for turn(), without those that it would throw an exception for)", () -> {
            // by 4 a round of "a" and one of "b": none would be wrong
            turned(-1, "a10b", "6a5b");
            turned(-1, "a11b", "6a5b");
            turned(-1, "a10b", "6a");
            turned(4, "a9b", "6a5b");
            turned(4, "a/b/c/d/e/f/a/b/c/d", "abcdefbcdefa");
            Twins.refusedAsState(() -> Workshop.richWith("a10b", "6a5b"), x -> x.turn(4));
        });
    }

    private static void bestTurnRefused() {
        Sentence.holds(29, "of several the least one", () -> {
            turned(0, "ab", "bababa");
            turned(1, "a/b", "6b6a");
            turned(0, "ab/cd", "bababacdcdcd");
            // one is wrong by 0, by 2 and by 4
            turned(0, "ab", "b3a");
            // "ab" now, "ba" by 0 and 2, "ef" by 1, "cd" by 3, "ac" by 4
            turned(0, "ab/cd/ef", "bf");
            turned(1, "ab/cd/ef", "ed");
            turned(3, "ab/cd/ef", "2c");
            // "ab" now, "cb" by 0, "bc" by 2, "aa" by 4
            turned(2, "abc", "ba");
        });
        Sentence.holds(29, "NONE if by none of them fewer would be wrong than now", () -> {
            Twins.answered(-1, Workshop::new, Workshop::bestTurn);
            turned(-1, "ab", "");
            turned(-1, "ab", "ababab");
            turned(-1, "ab", "6c");
            turned(-1, "a", "6b");
            // two are wrong now, and by 0, 2 and 4 two of the four also
            turned(-1, "ab", "2a2b");
            turned(-1, "a/b", "6a");
            Twins.answered(-1, TermSentences::full, Workshop::bestTurn);
        });
    }

    // ---- promise 30

    private static void share(double due, Supplier<Workshop> made) {
        Check.dueDouble("wrongShare", made.get().wrongShare(), due);
        Workshop x = made.get();
        x.wrongShare();
        Check.due("digest behind wrongShare", x.digest(), made.get().digest());
    }

    private static void wrongShare() {
        Sentence.holds(30, "Returns count(4), as a double, divided by count(2)", () -> {
            share(0.0, () -> Workshop.richWith("ab", "ab"));
            share(1.0, () -> Workshop.richWith("ab", "3c"));
            share(1.0, () -> Workshop.richWith("ab", "c"));
            share(0.5, () -> Workshop.richWith("ab", "ac"));
            share(1.0 / 3.0, () -> Workshop.richWith("ab", "abc"));
            share(2.0 / 7.0, () -> Workshop.richWith("a", "2b5a"));
            share(1.0 / 240.0, () -> Workshop.richWith("a", "b60a60a60a59a"));
            share(239.0 / 240.0, () -> Workshop.richWith("b", "b60a60a60a59a"));
            share(1.0, () -> Workshop.richWith("f", "60a60a60a60a"));
        });
        Sentence.holds(30, "0.0 if that is 0", () -> {
            share(0.0, Workshop::new);
            share(0.0, () -> Workshop.withChart("f"));
            share(0.0, () -> {
                Workshop x = Workshop.richWith("f", "3a");
                x.unpick(3);
                return x;
            });
        });
    }

    // ---- promise 31

    private static long hashOf(long... values) {
        long hash = 2351;
        for (long value : values) {
            hash = 31 * hash + value;
        }
        return hash;
    }

    private static void digest() {
        Sentence.holds(31, "The hash starts at 2351. For each value v of the following list, in order, "
                + "the hash becomes 31 * hash + v, in long arithmetic with overflow.", () -> {
            long[] due = join(new long[] {1, 1, 0, 1, 0, 0, 0, 0, 0, 0, 1, 40, 0},
                    new long[] {6, 1, 40, 0}, new long[] {0}, new long[] {0, 0, 0, 0, 1, 0, 60},
                    new long[35], new long[] {0, 0, -1, 0}, new long[] {3, 0, 40, 80, -1, -1, -1, -1,
                        -1}, new long[] {-1, 0, 0, -1, 0, 0});
            Twins.answered(hashOf(due), Workshop::new, Workshop::digest);
        });
        Sentence.holds(31, "the settings 0 to 3; for each row and each of its columns the cell; for each "
                + "colour its numbers 0 to 5, and needed with 60 beads", () -> {
            // rounds "ababab" and "dcdcdc" in turns: knots are hidden at 12 * k + 0, 2 and 4
            long[] codes = new long[60];
            Arrays.fill(codes, 126);
            long[] due = join(new long[] {2, 2, 0, 1, 0, 0, 0, 0, 0, 0, 4, 40, 1},
                    new long[] {6, 1, 40, 0}, new long[] {0, 1, 2, 3},
                    new long[] {0, 0, 0, 0, 1, 0, 15}, new long[] {0, 0, 0, 0, 1, 0, 15},
                    new long[] {0, 0, 0, 0, 1, 0, 15}, new long[] {0, 0, 0, 0, 1, 0, 15},
                    new long[14], new long[] {0, 0, -1, 0}, new long[] {4, 0, 40, 76, 112, -1, -1, -1,
                        -1}, new long[] {-1, 0, 0, -1, 0, 60}, codes);
            Twins.answered(hashOf(due), () -> Workshop.withChart("ab/cd").type("~".repeat(60)),
                    Workshop::digest);
        });
        Sentence.holds(31, "for each bead that is strung its properties 0 to 3; for each string its "
                + "properties 0 to 3; plan for 120 beads with NONE and with 0 to 7",
                PlanSentences::digestOfBeads);
        Sentence.holds(31, "plan for 120 beads with NONE and with 0 to 7", () -> {
            // strings of 7: 17 of them are enough for 119 beads, and 120 need one more
            long[] due = join(new long[] {1, 1, 0, 1, 0, 0, 0, 0, 0, 0, 1, 7, 1},
                    new long[] {6, 1, 7, 0}, new long[] {0}, new long[] {0, 0, 0, 0, 1, 0, 60},
                    new long[35], new long[] {0, 0, -1, 0}, new long[] {18, 0, 7, 14, 21, 28, 35, 42,
                        49}, new long[] {-1, 0, 0, -1, 0, 0});
            Twins.answered(hashOf(due), () -> new Workshop().having(2, 7), Workshop::digest);
        });
        Sentence.holds(31, "the length of the buffer and each of its character codes", () -> {
            long[] ahead = join(new long[] {1, 1, 0, 1, 0, 0, 0, 0, 0, 0, 1, 40, 0},
                    new long[] {6, 1, 40, 0}, new long[] {0}, new long[] {0, 0, 0, 0, 1, 0, 60},
                    new long[35], new long[] {0, 0, -1, 0}, new long[] {3, 0, 40, 80, -1, -1, -1, -1,
                        -1}, new long[] {-1, 0, 0, -1, 0});
            for (String text : new String[] {"", "!", "~", "!~", "2ab/f", "!~".repeat(30)}) {
                long[] codes = text.chars().asLongStream().toArray();
                Twins.answered(hashOf(join(ahead, new long[] {text.length()}, codes)),
                        () -> new Workshop().type(text), Workshop::digest);
            }
            Twins.answered(hashOf(join(ahead, new long[] {0})), () -> new Workshop().type("abc")
                    .retype(""), Workshop::digest);
        });
        Sentence.holds(31, "the bits of wrongShare (as Double.doubleToLongBits)", () -> {
            long[] due = join(new long[] {1, 1, 1, 1, 1, 0, 0, 1, 0, 0, 1, 39, 2},
                    new long[] {6, 1, 40, 0}, new long[] {0}, new long[] {0, 0, 0, 0, 1, 0, 60},
                    new long[] {0, 1, 1, 0, 0, 1, 0}, new long[28], new long[] {1, 1, 0, 0},
                    new long[] {0, 1, -1, 1}, new long[] {3, 0, 40, 80, -1, -1, -1, -1, -1},
                    new long[] {0, 0, 0, -1, 0x3FF0000000000000L, 0});
            Twins.answered(hashOf(due), () -> new Workshop().bought(1, 1).strung("b").retype(""),
                    Workshop::digest);
        });
    }

    private static void digestOfBeads() {
        Supplier<Workshop> made = () -> {
            Workshop x = Workshop.withChart("ab").having(0, 3).having(1, 0).having(2, 5).having(3, 1);
            x.bought(0, 10).bought(1, 5);
            return x.strung("2a").joined().strung("b").joined().type("!~");
        };
        // "abaaba" and so on; by turn 0, 2 and 4 one bead would be wrong; knots are hidden at 1, 4, 7
        long[] due = join(new long[] {1, 2, 3, 3, 2, 2, 12, 15, 0, 0, 2, 5, 6},
                new long[] {3, 0, 5, 1}, new long[] {0, 1}, new long[] {8, 10, 2, 0, 1, 1, 40},
                new long[] {4, 5, 1, 0, 1, 1, 20}, new long[28], new long[] {0, 0, 0, 0},
                new long[] {0, 1, 0, 1}, new long[] {1, 1, 1, 0}, new long[] {0, 2, -1, 1},
                new long[] {2, 1, 0, 1}, new long[] {3, 0, 0, 0},
                new long[] {39, 0, 4, 7, 10, 13, 16, 19, 22},
                new long[] {1, 2, 0, 0, 0x3FE5555555555555L, 2, '!', '~'});
        Twins.answered(hashOf(due), made, Workshop::digest);
    }

    private static long[] join(long[]... parts) {
        return Arrays.stream(parts).flatMapToLong(Arrays::stream).toArray();
    }
}

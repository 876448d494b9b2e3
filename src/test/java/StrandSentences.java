import java.util.function.Supplier;

/** Promises 10 to 12: join, crush, unpick. */
final class StrandSentences {
    private static final int[] FAR = {Integer.MIN_VALUE, Integer.MAX_VALUE};

    private StrandSentences() {
    }

    static void hold() {
        join();
        joinRefused();
        crush();
        crushTakesStringsAway();
        unpick();
        unpickRefused();
    }

    /** 600 beads of each colour, and these rows of beads, each on a string of its own. */
    private static Supplier<Workshop> strings(String... rows) {
        return () -> {
            Workshop x = Workshop.rich().having(2, 240);
            for (int i = 0; i < rows.length; i++) {
                if (i > 0) {
                    x.join();
                }
                if (!rows[i].isEmpty()) {
                    x.strung(rows[i]);
                }
            }
            return x;
        };
    }

    private static void due(String what, Workshop x, String beads, String begins) {
        Check.dueText(what + ": beads", x.beads(), beads);
        Check.dueText(what + ": begins", x.begins(), begins);
    }

    // ---- promise 10

    private static void join() {
        Sentence.holds(10, "Joins a new string.", () -> {
            Workshop x = strings("3a").get();
            x.join();
            Check.due("strings", x.count(3), 2);
            Check.due("its begin", x.strand(1, 0), 3);
            Check.due("its beads", x.strand(1, 1), 0);
            Check.due("beads of the one ahead", x.strand(0, 1), 3);
            x.string(1, 1);
            due("a bead more", x, "aaab", "0 3");
        });
        Sentence.holds(10, "Undoable.", () -> {
            Twins.undoable(1, strings("3a"), Workshop::join);
            Twins.undoable(1, () -> Workshop.withChart("a").bought(0, 9).strung("3a"), Workshop::join);
        });
        Sentence.holds(10, "Returns 1 if the knot is hidden, otherwise 0.", () -> {
            // the pattern is "ababab", then "ba"
            int[] due = {0, 1, 0, 1, 0, 0, 1};
            for (int beads = 1; beads <= due.length; beads++) {
                String row = beads == 1 ? "c" : beads + "c";
                Check.due("under colour 0 at " + beads,
                        strings(row).get().loaded("ab").join(), due[beads - 1]);
                Check.due("under colour 1 at " + beads,
                        strings(row).get().loaded("ab").having(3, 1).join(), 1 - due[beads - 1]);
                Check.due("under colour 2 at " + beads,
                        strings(row).get().loaded("ab").having(3, 2).join(), 0);
            }
            Check.due("at 240", strings("60a60b60c60d").get().join(), 1);
            Check.due("at 240 under colour 1", strings("60a60b60c60d").get().having(3, 1).join(), 0);
            // round 48 of 5 begins in column 3 of five
            Check.due("at 240 under the fourth column", strings("60a60b60c60d").get().loaded("3aba")
                    .having(0, 5).having(3, 1).join(), 1);
        });
    }

    private static void joinRefused() {
        Sentence.holds(10, "Throws `IllegalStateException` if the last string has no beads", () -> {
            Twins.refusedAsState(Workshop::new, Workshop::join);
            Twins.refusedAsState(Workshop::rich, Workshop::join);
            Twins.refusedAsState(strings("3a", ""), Workshop::join);
            Supplier<Workshop> unpicked = () -> {
                Workshop x = strings("3a", "2b").get();
                x.unpick(2);
                return x;
            };
            Twins.refusedAsState(unpicked, Workshop::join);
            Supplier<Workshop> crushed = () -> {
                Workshop x = strings("3a", "b").get();
                x.crush(3);
                return x;
            };
            Twins.refusedAsState(crushed, Workshop::join);
            Supplier<Workshop> nothingLeft = () -> {
                Workshop x = strings("3a").get();
                x.unpick(3);
                return x;
            };
            Twins.refusedAsState(nothingLeft, Workshop::join);
            Workshop one = strings("3a", "b").get();
            one.join();
            Check.due("behind a string of one bead", one.count(3), 3);
        });
        Sentence.holds(10, "or there are 48 strings", () -> {
            Supplier<Workshop> made = TermSentences::fortyEightStrings;
            Check.due("strings", made.get().count(3), 48);
            Twins.refusedAsState(made, Workshop::join);
            Supplier<Workshop> lastIsEmpty = () -> {
                Workshop x = made.get();
                x.unpick(1);
                return x;
            };
            Twins.refusedAsState(lastIsEmpty, Workshop::join);
            Workshop fewer = made.get();
            fewer.crush(20);
            Check.due("strings when one is taken away", fewer.count(3), 47);
            fewer.join();
            Check.due("the 48th again", fewer.strand(47, 0), 47);
        });
    }

    // ---- promise 11

    private static void crush() {
        Sentence.holds(11, "Crushes a bead: it is lost", () -> {
            Workshop x = strings("2abc").get();
            x.crush(2);
            due("the bead is gone", x, "aac", "0");
            Check.due("stock", x.colour(1, 0), 599);
            Check.due("crushed of 1", x.colour(1, 3), 1);
            Check.due("crushed of 0", x.colour(0, 3), 0);
            Check.due("crushed", x.count(8), 1);
            Check.due("bought", x.colour(1, 1), 600);
            Check.due("unpicked", x.count(9), 0);
        });
        Sentence.holds(11, "all beads behind it come one place ahead (with the strings that begin "
                + "behind it)", () -> {
            String[] rows = {"ab", "cde", "fa"};
            String[] beads = {"bcdefa", "acdefa", "abdefa", "abcefa", "abcdfa", "abcdea", "abcdef"};
            String[] begins = {"0 1 4", "0 1 4", "0 2 4", "0 2 4", "0 2 4", "0 2 5", "0 2 5"};
            for (int bead = 0; bead < 7; bead++) {
                Workshop x = strings(rows).get();
                x.crush(bead);
                due("crush " + bead, x, beads[bead], begins[bead]);
                Check.due("strings", x.count(3), 3);
            }
            Workshop empty = strings("2ab", "").get();
            empty.crush(0);
            due("ahead of an empty string", empty, "ab", "0 2");
            Workshop most = strings("60a60b60c59de").get();
            most.crush(0);
            Check.due("the last of 240", most.bead(238, 0), 4);
            Check.due("the one ahead of it", most.bead(237, 0), 3);
        });
        Sentence.holds(11, "Undoable.", () -> {
            Twins.undoable(4, () -> Workshop.withChart("f").bought(0, 9).strung("5a"),
                    x -> x.crush(2));
            Twins.undoable(5, strings("ab", "c", "def"), x -> x.crush(2));
            Twins.undoable(6, strings("ab", "cde", "fa"), x -> x.crush(0));
            Twins.undoable(3, strings("a", "bc", "d"), x -> x.crush(0));
            Twins.undoable(0, strings("a"), x -> x.crush(0));
        });
        Sentence.holds(11, "Returns how many beads are strung then.", () -> {
            Check.due("crush of 3", strings("3a").get().crush(1), 2);
            Check.due("crush of 1", strings("a").get().crush(0), 0);
            Check.due("crush of 240", strings("60a60b60c60d").get().crush(239), 239);
        });
        Sentence.holds(11, "`bead`: its number", () -> {
            Workshop first = strings("abc").get();
            first.crush(0);
            due("crush 0", first, "bc", "0");
            Workshop last = strings("abc").get();
            last.crush(2);
            due("crush 2", last, "ab", "0");
        });
        Sentence.holds(11, "Throws `IndexOutOfBoundsException` if there is no such bead", () -> {
            Supplier<Workshop> made = strings("ab", "cde");
            Check.due("the first", made.get().crush(0), 4);
            Check.due("the last", made.get().crush(4), 4);
            for (int bead : new int[] {-1, 5, 6, FAR[0], FAR[1]}) {
                Twins.refusedAsIndex(made, x -> x.crush(bead));
            }
            Twins.refusedAsIndex(Workshop::new, x -> x.crush(0));
            Twins.refusedAsIndex(Workshop::new, x -> x.crush(-1));
            Twins.refusedAsIndex(strings("60a60b60c60d"), x -> x.crush(240));
            Supplier<Workshop> fewer = () -> {
                Workshop x = made.get();
                x.unpick(1);
                x.crush(0);
                return x;
            };
            Twins.refusedAsIndex(fewer, x -> x.crush(3));
        });
    }

    private static void crushTakesStringsAway() {
        Sentence.holds(11, "If its string has no other bead and is not the last one, the string is "
                + "taken away with the knot at its end.", () -> {
            Workshop x = strings("aa", "b", "ccc").get();
            x.crush(2);
            due("the only bead between two", x, "aaccc", "0 2");
            x = strings("a", "bb", "c").get();
            x.crush(0);
            due("the only bead of the first", x, "bbc", "0 2");
            x = strings("aa", "bb", "c").get();
            x.crush(4);
            due("the only bead of the last", x, "aabb", "0 2 4");
            Check.due("the last without beads", x.strand(2, 1), 0);
            x.crush(3);
            due("one of two ahead of it", x, "aab", "0 2 3");
            x.crush(2);
            due("the only bead ahead of an empty one", x, "aa", "0 2");
            x = strings("a").get();
            x.crush(0);
            due("the only bead of the only one", x, "", "0");
            x = strings("a", "b", "c", "d").get();
            x.crush(1);
            due("one of four", x, "acd", "0 1 2");
            x.crush(1);
            due("one of three", x, "ad", "0 1");
            x.crush(0);
            due("one of two", x, "d", "0");
            x.crush(0);
            due("the last of one", x, "", "0");
            Workshop many = TermSentences.fortyEightStrings();
            many.crush(46);
            Check.due("the 47th of 48: strings", many.count(3), 47);
            Check.due("begin of the last one", many.strand(46, 0), 46);
            many.crush(46);
            Check.due("the only bead of the last of 47: strings", many.count(3), 47);
        });
    }

    // ---- promise 12

    private static void unpick() {
        Sentence.holds(12, "Takes the last beads off, back into the stock", () -> {
            Workshop x = strings("2a3b2c").get();
            x.unpick(3);
            due("the last 3", x, "aabb", "0");
            Check.due("stock of 0", x.colour(0, 0), 598);
            Check.due("stock of 1", x.colour(1, 0), 598);
            Check.due("stock of 2", x.colour(2, 0), 600);
            Check.due("unpicked", x.count(9), 3);
            Check.due("crushed", x.count(8), 0);
            Check.due("bought", x.count(7), 3600);
            x.unpick(4);
            Check.due("stock", x.count(6), 3600);
            Check.due("unpicked then", x.count(9), 7);
            Workshop most = strings("60a60b60c60d").get();
            most.unpick(240);
            Check.due("stock of all", most.count(6), 3600);
            Check.due("unpicked of all", most.count(9), 240);
        });
        Sentence.holds(12, "each string that begins at a number greater than the number of beads that "
                + "are left is taken away", () -> {
            String[] begins = {"0 2 3 6", "0 2 3 6", "0 2 3", "0 2 3", "0 2 3", "0 2", "0", "0"};
            String[] beads = {"aabcccd", "aabccc", "aabcc", "aabc", "aab", "aa", "a", ""};
            for (int many = 1; many <= 7; many++) {
                Workshop x = strings("aa", "b", "ccc", "d").get();
                x.unpick(many);
                due("unpick " + many, x, beads[many], begins[many]);
            }
            Workshop empty = strings("aa", "").get();
            empty.unpick(1);
            due("with an empty last string", empty, "a", "0");
            Workshop many = TermSentences.fortyEightStrings();
            many.unpick(1);
            Check.due("strings of 48", many.count(3), 48);
            many.unpick(1);
            Check.due("strings of 47", many.count(3), 47);
            many.unpick(45);
            Check.dueText("begins behind 45 more", many.begins(), "0 1");
        });
        Sentence.holds(12, "(The last string can be without beads then.)", () -> {
            Workshop x = strings("aa", "bb").get();
            x.unpick(2);
            Check.due("strings", x.count(3), 2);
            Check.due("beads of the last one", x.strand(1, 1), 0);
            x.unpick(2);
            Check.due("strings", x.count(3), 1);
            Check.due("beads of the only one", x.strand(0, 1), 0);
        });
        Sentence.holds(12, "Undoable.", () -> {
            Twins.undoable(2, () -> Workshop.withChart("f").bought(0, 9).strung("5a"),
                    x -> x.unpick(3));
            Twins.undoable(1, strings("aa", "b", "ccc"), x -> x.unpick(5));
        });
        Sentence.holds(12, "Returns how many beads are strung then.", () -> {
            Check.due("unpick of 5", strings("5a").get().unpick(2), 3);
            Check.due("unpick of all", strings("5a").get().unpick(5), 0);
        });
    }

    private static void unpickRefused() {
        Sentence.holds(12, "`many`: 1 to 240", () -> {
            Check.due("unpick 1", strings("60a60b60c60d").get().unpick(1), 239);
            Check.due("unpick 240", strings("60a60b60c60d").get().unpick(240), 0);
        });
        Sentence.holds(12, "Throws `IllegalArgumentException` if many is out of range", () -> {
            for (int many : new int[] {0, -1, 241, FAR[0], FAR[1]}) {
                Twins.refusedAsArgument(strings("aa", "bb"), x -> x.unpick(many));
                Twins.refusedAsArgument(Workshop::new, x -> x.unpick(many));
                Twins.refusedAsArgument(strings("60a60b60c60d"), x -> x.unpick(many));
            }
        });
        Sentence.holds(12, "Throws `IllegalStateException` if there are fewer beads", () -> {
            Check.due("as many", strings("aa", "bb").get().unpick(4), 0);
            Twins.refusedAsState(strings("aa", "bb"), x -> x.unpick(5));
            Twins.refusedAsState(strings("aa", "bb"), x -> x.unpick(240));
            Twins.refusedAsState(Workshop::new, x -> x.unpick(1));
            Twins.refusedAsState(Workshop::new, x -> x.unpick(240));
            Twins.refusedAsState(strings("60a60b60c59d"), x -> x.unpick(240));
            Supplier<Workshop> unpicked = () -> {
                Workshop x = strings("aa", "bb").get();
                x.unpick(2);
                return x;
            };
            Twins.refusedAsState(unpicked, x -> x.unpick(3));
        });
    }
}

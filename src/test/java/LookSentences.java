import java.util.function.Supplier;

/** Promises 17 to 23: cell, pattern, bead, strand, colour, count, setting. */
final class LookSentences {
    private static final int[] FAR = {Integer.MIN_VALUE, Integer.MAX_VALUE};

    private LookSentences() {
    }

    static void hold() {
        cell();
        pattern();
        bead();
        strand();
        colour();
        countOfThings();
        countOfBeads();
        countOfRoomAndStates();
        setting();
    }

    // ---- promise 17

    private static void cell() {
        Sentence.holds(17, "`row`: its row", () -> {
            Supplier<Workshop> made = () -> Workshop.withChart("ab/cd/ef");
            Twins.answered(0, made, x -> x.cell(0, 0));
            Twins.answered(4, made, x -> x.cell(2, 0));
            Twins.refusedAsIndex(made, x -> x.cell(-1, 0));
            Twins.refusedAsIndex(made, x -> x.cell(3, 0));
        });
        Sentence.holds(17, "`column`: its column", () -> {
            Supplier<Workshop> made = () -> Workshop.withChart("abc/def");
            Twins.answered(0, made, x -> x.cell(0, 0));
            Twins.answered(2, made, x -> x.cell(0, 2));
            Twins.refusedAsIndex(made, x -> x.cell(0, -1));
            Twins.refusedAsIndex(made, x -> x.cell(0, 3));
        });
        Sentence.holds(17, "Returns its colour.", () -> {
            Workshop x = Workshop.withChart("abc/def");
            for (int i = 0; i < 6; i++) {
                Check.due("cell " + i, x.cell(i / 3, i % 3), i);
            }
            Workshop greatest = Workshop.withChart(TermSentences.GREATEST);
            Check.due("last of the first row", greatest.cell(0, 11), 1);
            Check.due("first of the last row", greatest.cell(9, 0), 3);
            Check.due("last of the last row", greatest.cell(9, 11), 4);
        });
        Sentence.holds(17, "Throws `IndexOutOfBoundsException` if there is no such cell", () -> {
            noCell(Workshop::new, 1, 1);
            noCell(() -> Workshop.withChart("abc/def"), 2, 3);
            noCell(() -> Workshop.withChart("ab/cd/ef"), 3, 2);
            noCell(() -> Workshop.withChart(TermSentences.GREATEST), 10, 12);
            noCell(() -> Workshop.withChart(TermSentences.GREATEST).loaded("ab"), 1, 2);
            Supplier<Workshop> turned = () -> {
                Workshop x = Workshop.withChart("abc/def");
                x.turn(4);
                return x;
            };
            noCell(turned, 3, 2);
        });
    }

    private static void noCell(Supplier<Workshop> made, int rows, int columns) {
        Twins.answered(made.get().cell(rows - 1, columns - 1), made,
                x -> x.cell(rows - 1, columns - 1));
        for (int row : new int[] {-1, rows, FAR[0], FAR[1]}) {
            Twins.refusedAsIndex(made, x -> x.cell(row, 0));
            Twins.refusedAsIndex(made, x -> x.cell(row, columns - 1));
        }
        for (int column : new int[] {-1, columns, FAR[0], FAR[1]}) {
            Twins.refusedAsIndex(made, x -> x.cell(0, column));
            Twins.refusedAsIndex(made, x -> x.cell(rows - 1, column));
        }
        Twins.refusedAsIndex(made, x -> x.cell(rows, columns));
        Twins.refusedAsIndex(made, x -> x.cell(-1, -1));
    }

    // ---- promise 18

    private static void pattern() {
        Sentence.holds(18, "`bead`: 0 to 239", () -> {
            // round 39 of 6 is in row 3 of 4, and begins in column 39 modulo 5; bead 239 is 5 further
            Supplier<Workshop> made = () -> Workshop.withChart("abcde/bcdef/cdefa/defab");
            Check.dueAll("pattern 0", what -> made.get().pattern(0, what), 0, 0, 0, 0);
            Check.dueAll("pattern 239", what -> made.get().pattern(239, what), 1, 39, 3, 4);
        });
        Sentence.holds(18, "`what`: 0: the colour; 1: the round; 2: the row of the chart; 3: the column of the "
                + "chart", () -> {
            Workshop x = Workshop.withChart("abcd/bcde/cdef");
            Check.dueAll("pattern 5", what -> x.pattern(5, what), 1, 0, 0, 1);
            Check.dueAll("pattern 6", what -> x.pattern(6, what), 2, 1, 1, 1);
            Check.dueAll("pattern 14", what -> x.pattern(14, what), 2, 2, 2, 0);
            Check.dueAll("pattern 17", what -> x.pattern(17, what), 5, 2, 2, 3);
            Check.dueAll("pattern 18", what -> x.pattern(18, what), 3, 3, 0, 3);
        });
        Sentence.holds(18, "Throws `IllegalArgumentException` if bead or what is out of range", () -> {
            Supplier<Workshop> made = () -> Workshop.withChart("abc/def");
            for (int bead : new int[] {-1, 240, FAR[0], FAR[1]}) {
                for (int what = 0; what < 4; what++) {
                    int asked = what;
                    Twins.refusedAsArgument(made, x -> x.pattern(bead, asked));
                }
            }
            for (int what : new int[] {-1, 4, FAR[0], FAR[1]}) {
                Twins.refusedAsArgument(made, x -> x.pattern(0, what));
                Twins.refusedAsArgument(made, x -> x.pattern(239, what));
                Twins.refusedAsArgument(made, x -> x.pattern(240, what));
            }
        });
    }

    // ---- promise 19

    /** Under "ab": "aca", "b" and an empty string behind it. */
    private static Workshop three() {
        return Workshop.richWith("ab", "aca").joined().strung("b").joined();
    }

    private static void bead() {
        Sentence.holds(19, "`what`: 0: its colour; 1: 1 if it is wrong, otherwise 0; 2: its string; 3: its place "
                + "on its string, from 0", () -> {
            Workshop x = three();
            Check.dueAll("the first of string 0", what -> x.bead(0, what), 0, 0, 0, 0);
            Check.dueAll("a wrong one", what -> x.bead(1, what), 2, 1, 0, 1);
            Check.dueAll("the last of string 0", what -> x.bead(2, what), 0, 0, 0, 2);
            Check.dueAll("the only one of string 1", what -> x.bead(3, what), 1, 0, 1, 0);
            x.string(5, 1);
            Check.dueAll("the first of the last string", what -> x.bead(4, what), 5, 1, 2, 0);
            Workshop most = Workshop.richWith("a", "60a60b60c").joined().strung("60f");
            Check.dueAll("the last of 240", what -> most.bead(239, what), 5, 1, 1, 59);
            Workshop many = TermSentences.fortyEightStrings();
            Check.dueAll("the only one of string 47", what -> many.bead(47, what), 0, 0, 47, 0);
        });
        Sentence.holds(19, "`bead`: its number", () -> {
            Twins.answered(0, LookSentences::three, x -> x.bead(0, 0));
            Twins.answered(1, LookSentences::three, x -> x.bead(3, 0));
            Twins.refusedAsIndex(LookSentences::three, x -> x.bead(-1, 0));
            Twins.refusedAsIndex(LookSentences::three, x -> x.bead(4, 0));
        });
        Sentence.holds(19, "Throws `IndexOutOfBoundsException` if there is no such bead", () -> {
            for (int bead : new int[] {-1, 4, 5, 240, FAR[0], FAR[1]}) {
                Twins.refusedAsIndex(LookSentences::three, x -> x.bead(bead, 0));
                Twins.refusedAsIndex(LookSentences::three, x -> x.bead(bead, 3));
            }
            Twins.refusedAsIndex(Workshop::new, x -> x.bead(0, 0));
            Supplier<Workshop> crushed = () -> {
                Workshop x = three();
                x.crush(0);
                return x;
            };
            Check.due("the last one left", crushed.get().bead(2, 0), 1);
            Twins.refusedAsIndex(crushed, x -> x.bead(3, 0));
            Supplier<Workshop> unpicked = () -> {
                Workshop x = three();
                x.unpick(3);
                return x;
            };
            Check.due("the only one left", unpicked.get().bead(0, 0), 0);
            Twins.refusedAsIndex(unpicked, x -> x.bead(1, 0));
        });
        Sentence.holds(19, "Throws `IllegalArgumentException` if what is not 0 to 3", () -> {
            for (int what : new int[] {-1, 4, FAR[0], FAR[1]}) {
                Twins.refusedAsArgument(LookSentences::three, x -> x.bead(0, what));
                Twins.refusedAsArgument(LookSentences::three, x -> x.bead(3, what));
            }
        });
    }

    // ---- promise 20

    private static void strand() {
        Sentence.holds(20, "`what`: 0: the number at which it begins; 1: its beads; 2: 1 if the knot ahead of it "
                + "is hidden, otherwise 0, NONE for string 0; 3: its wrong beads", () -> {
            Workshop x = three();
            Check.dueAll("string 0", what -> x.strand(0, what), 0, 3, -1, 1);
            Check.dueAll("string 1", what -> x.strand(1, what), 3, 1, 0, 0);
            Check.dueAll("the last string, without beads", what -> x.strand(2, what), 4, 0, 1, 0);
            x.strung("2ab");
            Check.dueAll("the last string", what -> x.strand(2, what), 4, 3, 1, 1);
            x.set(3, 1);
            Check.due("knot ahead of string 1 under colour 1", x.strand(1, 2), 1);
            Check.due("knot ahead of string 2 under colour 1", x.strand(2, 2), 0);
            Check.due("no knot ahead of string 0", x.strand(0, 2), -1);
            Check.dueAll("a string without beads", what -> new Workshop().strand(0, what),
                    0, 0, -1, 0);
            Workshop most = Workshop.richWith("ab", "60c60c60c60c").joined();
            Check.dueAll("240 wrong beads", what -> most.strand(0, what), 0, 240, -1, 240);
            Check.dueAll("behind 240 beads", what -> most.strand(1, what), 240, 0, 1, 0);
            // round 40 begins in column 1 of three
            most.loaded("abc");
            Check.dueAll("behind 240 beads", what -> most.strand(1, what), 240, 0, 0, 0);
        });
        Sentence.holds(20, "`strand`: the number of the string", () -> {
            Twins.answered(0, LookSentences::three, x -> x.strand(0, 0));
            Twins.answered(4, LookSentences::three, x -> x.strand(2, 0));
            Twins.refusedAsIndex(LookSentences::three, x -> x.strand(-1, 0));
            Twins.refusedAsIndex(LookSentences::three, x -> x.strand(3, 0));
        });
        Sentence.holds(20, "Throws `IndexOutOfBoundsException` if there is no such string", () -> {
            for (int strand : new int[] {-1, 3, 4, 47, 48, FAR[0], FAR[1]}) {
                Twins.refusedAsIndex(LookSentences::three, x -> x.strand(strand, 0));
                Twins.refusedAsIndex(LookSentences::three, x -> x.strand(strand, 2));
            }
            Twins.refusedAsIndex(Workshop::new, x -> x.strand(1, 0));
            Supplier<Workshop> fewer = () -> {
                Workshop x = three();
                x.unpick(1);
                return x;
            };
            Check.due("the last one left", fewer.get().strand(1, 0), 3);
            Twins.refusedAsIndex(fewer, x -> x.strand(2, 0));
            Supplier<Workshop> crushed = () -> {
                Workshop x = three();
                x.crush(3);
                return x;
            };
            Check.due("the last one left", crushed.get().strand(1, 0), 3);
            Twins.refusedAsIndex(crushed, x -> x.strand(2, 0));
            Check.due("the 48th", TermSentences.fortyEightStrings().strand(47, 1), 1);
            Twins.refusedAsIndex(TermSentences::fortyEightStrings, x -> x.strand(48, 0));
        });
        Sentence.holds(20, "Throws `IllegalArgumentException` if what is not 0 to 3", () -> {
            for (int what : new int[] {-1, 4, FAR[0], FAR[1]}) {
                Twins.refusedAsArgument(LookSentences::three, x -> x.strand(0, what));
                Twins.refusedAsArgument(LookSentences::three, x -> x.strand(2, what));
            }
        });
    }

    // ---- promise 21

    private static void colour() {
        Sentence.holds(21, "`colour`: 0 to 5", () -> {
            Workshop x = Workshop.withChart("f").bought(5, 3);
            Check.dueAll("colour 0", what -> x.colour(0, what), 0, 0, 0, 0, 0, 0);
            Check.dueAll("colour 5", what -> x.colour(5, what), 3, 3, 0, 0, 1, 0);
        });
        Sentence.holds(21, "`what`: 0: its stock; 1: beads that were bought so far; 2: beads that are strung; 3: "
                + "beads that were crushed so far; 4: cells of the chart; 5: beads that are strung and "
                + "wrong", () -> {
            Workshop x = Workshop.withChart("aab/bca").bought(0, 20).bought(1, 10).bought(2, 5);
            x.strung("3a4b2c");
            x.crush(0);
            x.crush(7);
            x.unpick(1);
            // "aabbbb" under "aabaab"
            Check.dueAll("colour 0", what -> x.colour(0, what), 17, 20, 2, 1, 3, 0);
            Check.dueAll("colour 1", what -> x.colour(1, what), 6, 10, 4, 0, 2, 2);
            Check.dueAll("colour 2", what -> x.colour(2, what), 4, 5, 0, 1, 1, 0);
            Workshop most = Workshop.withChart("12f/12f/12f/12f/12f/12f/12f/12f/12f/12f")
                    .having(2, 240).bought(0, 600).bought(5, 600).strung("60a60a60a60a");
            Check.dueAll("240 wrong ones", what -> most.colour(0, what), 360, 600, 240, 0, 0, 240);
            Check.dueAll("120 cells", what -> most.colour(5, what), 600, 600, 0, 0, 120, 0);
        });
        Sentence.holds(21, "Throws `IllegalArgumentException` if colour or what is out of range", () -> {
            for (int colour : new int[] {-1, 6, FAR[0], FAR[1]}) {
                for (int what = 0; what < 6; what++) {
                    int asked = what;
                    Twins.refusedAsArgument(LookSentences::three, x -> x.colour(colour, asked));
                }
                Twins.refusedAsArgument(LookSentences::three, x -> x.colour(colour, 6));
            }
            for (int what : new int[] {-1, 6, FAR[0], FAR[1]}) {
                Twins.refusedAsArgument(LookSentences::three, x -> x.colour(0, what));
                Twins.refusedAsArgument(LookSentences::three, x -> x.colour(5, what));
            }
        });
    }

    // ---- promise 22

    private static void counts(String what, int asked, long due, Supplier<Workshop> made) {
        Check.due(what, made.get().count(asked), due);
    }

    private static void countOfThings() {
        Supplier<Workshop> greatest = () -> Workshop.withChart(TermSentences.GREATEST);
        Sentence.holds(22, "`what`: 0: rows; 1: columns;", () -> {
            counts("rows at first", 0, 1, Workshop::new);
            counts("columns at first", 1, 1, Workshop::new);
            counts("most rows", 0, 10, greatest);
            counts("most columns", 1, 12, greatest);
            counts("rows", 0, 2, () -> Workshop.withChart("abc/def"));
            counts("columns", 1, 3, () -> Workshop.withChart("abc/def"));
        });
        Sentence.holds(22, "3: strings;", () -> {
            counts("strings at first", 3, 1, Workshop::new);
            counts("with the last one, without beads", 3, 3, LookSentences::three);
            counts("most strings", 3, 48, TermSentences::fortyEightStrings);
        });
        Sentence.holds(22, "4: wrong beads; 5: knots that are not hidden;", () -> {
            counts("wrong at first", 4, 0, Workshop::new);
            counts("wrong", 4, 1, LookSentences::three);
            counts("all wrong", 4, 240, () -> Workshop.richWith("f", "60a60a60a60a"));
            counts("knots at first", 5, 0, () -> new Workshop().having(3, 1));
            counts("knots", 5, 1, LookSentences::three);
            counts("knots, by the other colour", 5, 1, () -> three().having(3, 1));
            counts("knots, by neither colour", 5, 2, () -> three().having(3, 2));
            counts("47 knots, hidden", 5, 0, TermSentences::fortyEightStrings);
            counts("47 knots, not hidden", 5, 47,
                    () -> TermSentences.fortyEightStrings().having(3, 5));
        });
        Sentence.holds(22, "10: colours in the chart;", () -> {
            counts("at first", 10, 1, Workshop::new);
            counts("of a to f", 10, 6, greatest);
            counts("of f alone", 10, 1, () -> Workshop.withChart("12f/12f"));
            counts("of a and f", 10, 2, () -> Workshop.withChart("af"));
            counts("behind a greater chart", 10, 2, () -> greatest.get().loaded("ab"));
        });
    }

    private static void countOfBeads() {
        Sentence.holds(22, "2: beads that are strung;", () -> {
            counts("at first", 2, 0, Workshop::new);
            counts("on three strings", 2, 4, LookSentences::three);
            counts("most", 2, 240, TermSentences::full);
        });
        Sentence.holds(22, "6: beads in the stock; 7: beads that were bought so far;", () -> {
            counts("stock at first", 6, 0, Workshop::new);
            counts("bought at first", 7, 0, Workshop::new);
            counts("stock of all", 6, 3600, Workshop::rich);
            counts("bought of all", 7, 3600, Workshop::rich);
            counts("stock when 240 are strung", 6, 3360, TermSentences::full);
            counts("bought when 240 are strung", 7, 3600, TermSentences::full);
        });
        Sentence.holds(22, "8: beads that were crushed so far; 9: beads that were unpicked so far;",
                () -> {
            Workshop x = three();
            Check.due("crushed at first", x.count(8), 0);
            Check.due("unpicked at first", x.count(9), 0);
            x.crush(0);
            x.crush(1);
            Check.due("crushed", x.count(8), 2);
            Check.due("unpicked", x.count(9), 0);
            x.unpick(2);
            x.string(0, 3);
            x.unpick(1);
            Check.due("crushed", x.count(8), 2);
            Check.due("unpicked", x.count(9), 3);
            Check.due("stock", x.count(6), 3600 - 2 - 2);
            Workshop often = Workshop.richWith("a", "60a60a60a60a");
            often.unpick(240);
            often.strung("60a60a60a60a");
            often.unpick(240);
            Check.due("unpicked more often than there are beads", often.count(9), 480);
        });
        Sentence.holds(22, "Throws `IllegalArgumentException` if what is not 0 to 12", () -> {
            for (int what : new int[] {-1, 13, 14, FAR[0], FAR[1]}) {
                Twins.refusedAsArgument(LookSentences::three, x -> x.count(what));
                Twins.refusedAsArgument(Workshop::new, x -> x.count(what));
            }
        });
    }

    private static void countOfRoomAndStates() {
        Sentence.holds(22, "11: beads that the last string can still hold", () -> {
            counts("at first", 11, 40, Workshop::new);
            counts("with 9 on it", 11, 31, () -> Workshop.rich().strung("9a"));
            counts("with 9 on it and 9 on another", 11, 31,
                    () -> Workshop.rich().strung("9a").joined().strung("9a"));
            counts("with 39 on it", 11, 1, () -> Workshop.rich().strung("39a"));
            counts("with 40 on it", 11, 0, () -> Workshop.rich().strung("40a"));
            counts("least", 11, 5, () -> new Workshop().having(2, 5));
            counts("most", 11, 240, () -> new Workshop().having(2, 240));
        });
        Sentence.holds(22, "(the limit of 240 does not matter)", () -> {
            counts("behind 240 on another one", 11, 240,
                    () -> Workshop.richWith("a", "60a60a60a60a").joined());
            counts("behind 239, with one on it", 11, 239,
                    () -> Workshop.richWith("a", "60a60a60a59a").joined().strung("a"));
        });
        Sentence.holds(22, "0 if it has more", () -> {
            counts("9 and 5", 11, 0, () -> Workshop.rich().strung("9a").having(2, 5));
            counts("6 and 5", 11, 0, () -> Workshop.rich().strung("6a").having(2, 5));
            counts("5 and 5", 11, 0, () -> Workshop.rich().strung("5a").having(2, 5));
            counts("4 and 5", 11, 1, () -> Workshop.rich().strung("4a").having(2, 5));
        });
        Sentence.holds(22, "12: saved states", () -> {
            Workshop x = new Workshop();
            for (int call = 0; call <= 8; call++) {
                Check.due("behind " + call + " calls", x.count(12), Math.min(6, call));
                x.buy(0, 1);
            }
            x.undo();
            Check.due("behind undo", x.count(12), 5);
        });
    }

    // ---- promise 23

    private static void setting() {
        Sentence.holds(23, "`setting`: 0 to 3", () -> {
            Twins.answered(6, Workshop::new, x -> x.setting(0));
            Twins.answered(0, Workshop::new, x -> x.setting(3));
        });
        Sentence.holds(23, "Returns its value.", () -> {
            Workshop x = new Workshop();
            Check.dueAll("at first", x::setting, 6, 1, 40, 0);
            x.having(0, 3).having(1, 11).having(2, 240).having(3, 5);
            Check.dueAll("as they are set", x::setting, 3, 11, 240, 5);
            x.having(0, 15).having(1, 0).having(2, 5).having(3, 0);
            Check.dueAll("as they are set then", x::setting, 15, 0, 5, 0);
        });
        Sentence.holds(23, "Throws `IndexOutOfBoundsException` if there is no such setting", () -> {
            for (int setting : new int[] {-1, 4, FAR[0], FAR[1]}) {
                Twins.refusedAsIndex(LookSentences::three, x -> x.setting(setting));
                Twins.refusedAsIndex(Workshop::new, x -> x.setting(setting));
            }
        });
    }
}

import java.util.function.Supplier;
import java.util.function.ToLongFunction;

/** What the document says ahead of the promises: chart, beads and strings, settings, exceptions. */
final class TermSentences {
    /** The greatest chart, no row and no column of it as another one. */
    static final String GREATEST =
            "2a10b/3b9c/4c8d/5d7e/6e6f/7f5a/8a4b/9b3c/10c2d/11de";
    static final String[] GREATEST_ROWS = {"aabbbbbbbbbb", "bbbccccccccc", "ccccdddddddd",
        "dddddeeeeeee", "eeeeeeffffff", "fffffffaaaaa", "aaaaaaaabbbb", "bbbbbbbbbccc",
        "ccccccccccdd", "ddddddddddde"};

    private TermSentences() {
    }

    static void hold() {
        whatItIs();
        Sentence.holds("Terms", "divisions are rounded down", TermSentences::roundedDown);
        Sentence.holds("Terms", "unless something else is told.", () -> {
            Check.dueDouble("1 / 3", Workshop.richWith("ab", "abc").wrongShare(), 1.0 / 3.0);
            Check.dueDouble("2 / 3", Workshop.richWith("ab", "acc").wrongShare(), 2.0 / 3.0);
        });
        Sentence.holds("Chart", "There are 6 colours, numbered from 0.", TermSentences::colours);
        Sentence.holds("Chart", "A chart has 1 to 10 rows and 1 to 12 columns",
                TermSentences::sizes);
        Sentence.holds("Chart", "both numbered from 0, with a colour in each cell",
                TermSentences::eachCell);
        Sentence.holds("Chart", "at first it has one cell, of colour 0", TermSentences::oneCell);
        Sentence.holds("Chart", "the round of the bead n is n / A", TermSentences::rounds);
        Sentence.holds("Chart", "The pattern tells a colour for each bead 0, 1, 2 and so on.",
                TermSentences::eachBead);
        Sentence.holds("Chart", "With the around A (setting 0) and the slant S (setting 1):",
                TermSentences::bySettings);
        Sentence.holds("Chart", "the pattern's colour for it is that of the chart in the row (round "
                + "modulo the number of rows)",
                TermSentences::rowsGoRound);
        Sentence.holds("Chart",
                "the column ((n modulo A) + S * round) modulo the number of columns",
                TermSentences::columnsGoRound);
        beads();
        settings();
        Sentence.holds("Exceptions", "A call that throws an exception changes nothing.",
                TermSentences::refusedCalls);
        Sentence.holds("Exceptions",
                "If several exceptions apply, the one that is named first in the throws clause is thrown.",
                TermSentences::severalExceptions);
        Sentence.holds("Exceptions", "what would be; nothing is changed", TermSentences::looks);
        Sentence.holds("Exceptions", "The constants: `NONE = -1`",
                () -> Check.due("NONE", BeadSpirals.NONE, -1));
        Sentence.holds("Exceptions", "There is nothing to return.", TermSentences::nothing);
    }

    private static void whatItIs() {
        String heading = "What it is";
        Sentence.holds(heading, "Beadwork by a chart: colours in rows that are read along a spiral, "
                + "beads that are bought, strung one behind the other, crushed and unpicked, strings "
                + "that hold only so many beads and are joined by knots, which are hidden under beads "
                + "of one colour, wrong beads, what would be, charts and rows of beads as texts, and "
                + "undo.", TermSentences::allOfIt);
        Sentence.holds(heading, "An object is used for at most 512 calls after it has been made;",
                TermSentences::the512thCall);
        Sentence.leavesFree(heading, "what later calls answer is free.");
    }

    /** The pattern is "aabaab" and then "bbbbbb". */
    private static void allOfIt() {
        Workshop x = new Workshop();
        Check.due("a chart as a text", x.type("2ab/3b").load(), 2);
        for (int colour = 0; colour < 3; colour++) {
            Check.due("beads that are bought", x.buy(colour, 10), 10);
        }
        Check.due("beads along the spiral", x.stringNext(5), 5);
        Check.due("a row of beads as a text", x.type("bc").stringRow(), 7);
        Check.dueText("one behind the other", x.beads(), "aabaabc");
        Check.due("wrong beads", x.firstWrong(), 6);
        Check.due("what would be", x.bestCrush(), 6);
        Check.due("crushed", x.crush(6), 6);
        Check.due("wrong beads then", x.firstWrong(), -1);
        Check.due("the hiding colour", x.set(3, 1), 0);
        Check.due("a knot under a bead of it", x.join(), 1);
        Check.due("what strings hold", x.set(2, 5), 40);
        Twins.refusedAsState(() -> new Workshop().bought(1, 10).having(2, 5), y -> y.string(1, 6));
        Check.due("a string that is full", x.string(1, 5), 11);
        // knots could be hidden at 2, and from 5 to 11: from 0 to 5 to 10
        Check.due("the fewest strings", x.plan(11, -1), 3);
        Check.due("unpicked", x.unpick(3), 8);
        Check.due("back in the stock", x.colour(1, 0), 6);
        Check.due("undo", x.undo(), 5);
        Check.due("beads behind undo", x.count(2), 11);
    }

    private static void the512thCall() {
        Workshop x = new Workshop();
        for (int i = 0; i < 255; i++) {
            x.buy(0, 1 + i % 100);
            x.undo();
        }
        Check.due("call 511", x.buy(0, 100), 100);
        Check.due("call 512", x.string(0, 40), 40);
        Check.due("calls", x.calls(), 512);
    }

    private static void roundedDown() {
        Workshop x = new Workshop();
        Check.due("5 / 6", x.pattern(5, 1), 0);
        Check.due("11 / 6", x.pattern(11, 1), 1);
        Check.due("239 / 6", x.pattern(239, 1), 39);
        Check.due("239 / 15", x.having(0, 15).pattern(239, 1), 15);
    }

    /** All calls that can answer NONE. */
    private static void nothing() {
        Twins.answered(BeadSpirals.NONE, Workshop::new, x -> x.strand(0, 2));
        Twins.answered(BeadSpirals.NONE, Workshop::new, x -> x.plan(1, 1));
        Twins.answered(BeadSpirals.NONE, () -> new Workshop().having(3, 1), x -> x.plan(41, -1));
        Twins.answered(BeadSpirals.NONE, Workshop::new, Workshop::firstWrong);
        Twins.answered(BeadSpirals.NONE, Workshop::new, Workshop::bestTurn);
    }

    // ---- the chart

    private static void colours() {
        Workshop x = Workshop.withChart("abcdef");
        for (int colour = 0; colour < 6; colour++) {
            Check.due("buy", x.buy(colour, 1), 1);
            Check.due("string", x.string(colour, 1), colour + 1);
            Check.due("cell", x.cell(0, colour), colour);
            Check.due("hiding colour", x.set(3, colour), Math.max(0, colour - 1));
            Check.due("bead", x.bead(colour, 0), colour);
        }
        Check.due("colours in the chart", x.count(10), 6);
        for (int colour : new int[] {-1, 6}) {
            Twins.refusedAsArgument(Workshop::new, y -> y.buy(colour, 1));
            Twins.refusedAsArgument(Workshop::rich, y -> y.string(colour, 1));
            Twins.refusedAsArgument(Workshop::new, y -> y.colour(colour, 0));
            Twins.refusedAsArgument(Workshop::new, y -> y.recolour(0, colour));
            Twins.refusedAsArgument(Workshop::new, y -> y.needed(colour, 1));
            Twins.refusedAsArgument(Workshop::new, y -> y.set(3, colour));
        }
    }

    private static void sizes() {
        Check.due("least: rows", Workshop.withChart("f").count(0), 1);
        Check.due("least: columns", Workshop.withChart("f").count(1), 1);
        Check.due("greatest: rows", Workshop.withChart(GREATEST).count(0), 10);
        Check.due("greatest: columns", Workshop.withChart(GREATEST).count(1), 12);
        Twins.refusedAsState(() -> new Workshop().type(GREATEST + "/12a"), Workshop::load);
        Twins.refusedAsState(() -> new Workshop().type("13a"), Workshop::load);
    }

    private static void eachCell() {
        Workshop x = Workshop.withChart(GREATEST);
        for (int row = 0; row < 10; row++) {
            for (int column = 0; column < 12; column++) {
                Check.due("cell " + row + ", " + column, x.cell(row, column),
                        GREATEST_ROWS[row].charAt(column) - 'a');
            }
        }
    }

    private static void oneCell() {
        Check.dueText("the chart", new Workshop().cells(), "a");
        Check.due("rows", new Workshop().count(0), 1);
        Check.due("columns", new Workshop().count(1), 1);
        Check.due("its colour", new Workshop().cell(0, 0), 0);
    }

    private static void rounds() {
        for (int around = 3; around <= 15; around++) {
            Workshop x = new Workshop().having(0, around);
            Check.due("the first bead", x.pattern(0, 1), 0);
            for (int round = 1; round * around < 240; round++) {
                Check.due("last bead of a round", x.pattern(round * around - 1, 1), round - 1);
                Check.due("first bead of a round", x.pattern(round * around, 1), round);
            }
        }
    }

    private static void eachBead() {
        Workshop x = Workshop.withChart(GREATEST).having(0, 7).having(1, 3);
        for (int bead = 0; bead < 240; bead++) {
            int round = bead / 7;
            Check.due("colour of bead " + bead, x.pattern(bead, 0),
                    GREATEST_ROWS[round % 10].charAt((bead % 7 + 3 * round) % 12) - 'a');
        }
    }

    private static void bySettings() {
        Supplier<Workshop> made = () -> Workshop.withChart("abcd");
        firstTwelve("at first", made.get(), "abcdabbcdabc");
        firstTwelve("around 4", made.get().having(0, 4), "abcdbcdacdab");
        firstTwelve("around 12", made.get().having(0, 12), "abcdabcdabcd");
        firstTwelve("slant 0", made.get().having(1, 0), "abcdababcdab");
        firstTwelve("slant 2", made.get().having(1, 2), "abcdabcdabcd");
        firstTwelve("around 4 and slant 3", made.get().having(0, 4).having(1, 3), "abcddabccdab");
        firstTwelve("by what a string holds", made.get().having(2, 5), "abcdabbcdabc");
        firstTwelve("by the hiding colour", made.get().having(3, 2), "abcdabbcdabc");
    }

    private static void firstTwelve(String what, Workshop x, String due) {
        StringBuilder colours = new StringBuilder();
        for (int bead = 0; bead < 12; bead++) {
            colours.append((char) ('a' + x.pattern(bead, 0)));
        }
        Check.dueText("the pattern " + what, colours.toString(), due);
    }

    private static void rowsGoRound() {
        Workshop x = Workshop.withChart("a/b/c").having(0, 3);
        Check.due("round 2", x.pattern(8, 2), 2);
        Check.due("round 3 is in row 0 again", x.pattern(9, 2), 0);
        Check.due("its colour", x.pattern(9, 0), 0);
        Check.due("round 5", x.pattern(17, 0), 2);
        Check.due("round 6 is in row 0 again", x.pattern(18, 0), 0);
        Check.due("round 79", x.pattern(239, 2), 1);
        Workshop ten = Workshop.withChart(GREATEST).having(0, 4);
        Check.due("round 9 of ten rows", ten.pattern(39, 2), 9);
        Check.due("round 10 of ten rows", ten.pattern(40, 2), 0);
        Check.due("round 19 of ten rows", ten.pattern(79, 2), 9);
        Check.due("round 59 of ten rows", ten.pattern(239, 2), 9);
        Workshop one = Workshop.withChart("abc");
        Check.due("round 1 of one row", one.pattern(6, 2), 0);
        Check.due("round 39 of one row", one.pattern(239, 2), 0);
    }

    private static void columnsGoRound() {
        Workshop x = Workshop.withChart("abcd");
        int[] due = {0, 1, 2, 3, 0, 1, 1, 2, 3, 0, 1, 2, 2, 3};
        for (int bead = 0; bead < due.length; bead++) {
            Check.due("column of bead " + bead, x.pattern(bead, 3), due[bead]);
            Check.due("colour of bead " + bead, x.pattern(bead, 0), due[bead]);
        }
        // round 3 begins in column 3, round 4 in column 0 again
        Check.due("column of bead 18", x.pattern(18, 3), 3);
        Check.due("column of bead 24", x.pattern(24, 3), 0);
        Workshop wide = Workshop.withChart("12a").having(0, 15).having(1, 11);
        Check.due("bead 11 of round 0", wide.pattern(11, 3), 11);
        Check.due("bead 12 of round 0", wide.pattern(12, 3), 0);
        Check.due("bead 0 of round 1", wide.pattern(15, 3), 11);
        Check.due("bead 1 of round 1", wide.pattern(16, 3), 0);
        // 14 + 11 * 15 is 179, and 14 * 12 is 168
        Check.due("bead 14 of round 15", wide.pattern(239, 3), 11);
        // 2 + 11 * 79 is 871, and 72 * 12 is 864
        Check.due("bead 2 of round 79", wide.having(0, 3).pattern(239, 3), 7);
        Check.due("one column", new Workshop().pattern(239, 3), 0);
        Check.due("slant 0", Workshop.withChart("abcde").having(1, 0).pattern(239, 3), 0);
    }

    // ---- beads and strings

    private static void beads() {
        String heading = "Beads and strings";
        Sentence.holds(heading, "There is a stock of beads of each colour, at first 0", () -> {
            for (int colour = 0; colour < 6; colour++) {
                int one = colour;
                Check.due("stock of " + colour, new Workshop().colour(colour, 0), 0);
                Twins.refusedAsState(Workshop::new, x -> x.string(one, 1));
            }
        });
        Sentence.holds(heading, "Beads are strung in a row of at most 240, numbered from 0",
                TermSentences::at240Beads);
        Sentence.holds(heading,
                "a bead is wrong if its colour is not the pattern's colour for its number "
                + "(as the chart and the settings are now)", TermSentences::wrongNow);
        Sentence.holds(heading,
                "The row is on strings, numbered from 0 in their order; at first there is one, "
                + "without beads.", () -> {
            Check.due("strings", new Workshop().count(3), 1);
            Check.due("beads on it", new Workshop().strand(0, 1), 0);
            Check.due("its begin", new Workshop().strand(0, 0), 0);
            Twins.refusedAsIndex(Workshop::new, x -> x.strand(1, 0));
        });
        Sentence.holds(heading,
                "Each string begins behind the one ahead of it; new beads come onto the last one.",
                TermSentences::newBeadsOnTheLast);
        Sentence.holds(heading, "A string can hold at most as many beads as setting 2 tells",
                TermSentences::fullString);
        Sentence.holds(heading, "if that becomes less later, a string keeps what it has",
                TermSentences::keepsWhatItHas);
        Sentence.holds(heading, "Between two strings there is a knot;", TermSentences::knots);
        Sentence.holds(heading,
                "it is hidden if the pattern's colour for the first bead of the second one (that is, "
                + "for the number at which it begins) is the hiding colour (setting 3)",
                TermSentences::hiddenKnots);
        Sentence.holds(heading, "There are at most 48 strings.", () -> {
            Workshop x = fortyEightStrings();
            Check.due("strings", x.count(3), 48);
            Check.due("the last one begins", x.strand(47, 0), 47);
            Twins.refusedAsState(TermSentences::fortyEightStrings, Workshop::join);
        });
    }

    /** Strings of one bead each. */
    static Workshop fortyEightStrings() {
        Workshop x = new Workshop().bought(0, 60);
        for (int i = 0; i < 47; i++) {
            x.string(0, 1);
            x.join();
        }
        x.string(0, 1);
        return x;
    }

    /** All of colour 0, four strings of 60; the stock is great, and the last string has room. */
    static Workshop full() {
        Workshop x = Workshop.rich().having(2, 240);
        for (int i = 0; i < 4; i++) {
            x.string(0, 60);
            if (i < 3) {
                x.join();
            }
        }
        return x;
    }

    private static void at240Beads() {
        Workshop x = full();
        Check.due("beads", x.count(2), 240);
        Check.due("the last bead", x.bead(239, 0), 0);
        Check.due("the first bead", x.bead(0, 3), 0);
        Check.due("room that the last string has", x.count(11), 180);
        Twins.refusedAsIndex(TermSentences::full, y -> y.bead(240, 0));
        Twins.refusedAsState(TermSentences::full, y -> y.string(0, 1));
        Twins.refusedAsState(TermSentences::full, y -> y.stringNext(1));
        Twins.refusedAsState(() -> full().type("a"), Workshop::stringRow);
        x.unpick(1);
        Check.due("239 and one", x.string(5, 1), 240);
    }

    private static void wrongNow() {
        Workshop x = Workshop.richWith("ab", "8a");
        // the pattern is "ababab", then "ba"
        Check.due("wrong", x.count(4), 4);
        x.set(0, 8);
        Check.due("by another around", x.bead(6, 1), 0);
        x.set(0, 6);
        Check.due("by the first around", x.bead(6, 1), 1);
        x.set(1, 0);
        Check.due("by another slant", x.bead(6, 1), 0);
        x.recolour(0, 1);
        Check.due("by other colours", x.bead(6, 1), 1);
        x.turn(0);
        Check.due("by a turned chart", x.bead(6, 1), 0);
        x.loaded("b");
        Check.due("by another chart", x.count(4), 8);
        x.undo();
        Check.due("by the chart that was", x.bead(6, 1), 0);
        x.crush(0);
        Check.due("by another number", x.bead(6, 1), 0);
        Check.due("by another number", x.bead(5, 1), 1);
    }

    private static void newBeadsOnTheLast() {
        Workshop x = Workshop.richWith("a", "2a").joined();
        Check.due("begin", x.strand(1, 0), 2);
        x.string(1, 3);
        x.stringNext(1);
        x.strung("2c");
        Check.due("beads of string 0", x.strand(0, 1), 2);
        Check.due("beads of string 1", x.strand(1, 1), 6);
        x.join();
        Check.due("begin of string 2", x.strand(2, 0), 8);
        x.string(1, 1);
        Check.due("beads of string 1", x.strand(1, 1), 6);
        Check.due("the string of bead 1", x.bead(1, 2), 0);
        Check.due("the string of bead 2", x.bead(2, 2), 1);
        Check.due("the string of bead 7", x.bead(7, 2), 1);
        Check.due("the string of bead 8", x.bead(8, 2), 2);
    }

    private static void fullString() {
        Supplier<Workshop> five = () -> Workshop.rich().having(2, 5);
        Check.due("string 5", five.get().string(0, 5), 5);
        Check.due("stringNext 5", five.get().stringNext(5), 5);
        Check.due("stringRow 5", five.get().type("5b").stringRow(), 5);
        Twins.refusedAsState(five, x -> x.string(0, 6));
        Twins.refusedAsState(five, x -> x.stringNext(6));
        Twins.refusedAsState(() -> five.get().type("6b"), Workshop::stringRow);
        Twins.refusedAsState(() -> five.get().strung("4b"), x -> x.string(0, 2));
        Supplier<Workshop> second = () -> five.get().strung("5a").joined().strung("4b");
        Check.due("fifth bead of string 1", second.get().string(0, 1), 10);
        Twins.refusedAsState(second, x -> x.string(0, 2));
        Workshop greatest = Workshop.rich().having(2, 240);
        for (int i = 1; i <= 4; i++) {
            Check.due("string", greatest.string(0, 60), 60 * i);
        }
        Check.due("one string", greatest.strand(0, 1), 240);
    }

    private static void keepsWhatItHas() {
        Supplier<Workshop> made = () -> Workshop.rich().strung("9a").having(2, 5);
        Check.due("beads", made.get().strand(0, 1), 9);
        Check.due("room", made.get().count(11), 0);
        Twins.refusedAsState(made, x -> x.string(0, 1));
        Workshop x = made.get();
        x.unpick(4);
        Check.due("room of five", x.count(11), 0);
        x.unpick(1);
        Check.due("string a fifth", x.string(1, 1), 5);
    }

    /** No knot is hidden here, so that all can be counted. */
    private static void knots() {
        Workshop x = Workshop.rich().having(3, 5);
        for (int strings = 1; strings <= 48; strings++) {
            Check.due("knots of " + strings + " strings", x.count(5), strings - 1);
            if (strings < 48) {
                x.string(0, 1);
                Check.due("knot behind string " + (strings - 1), x.join(), 0);
            }
        }
        Check.due("ahead of string 0", x.strand(0, 2), -1);
        Check.due("ahead of string 1", x.strand(1, 2), 0);
        Check.due("ahead of string 47", x.strand(47, 2), 0);
        x.crush(20);
        Check.due("knots when a string is taken away", x.count(5), 46);
        x.unpick(6);
        Check.due("knots when six beads are unpicked", x.count(5), 40);
    }

    private static void hiddenKnots() {
        // the pattern is "ababab", then "bababa"
        Workshop x = Workshop.richWith("ab", "2c").joined();
        Check.due("knot at 2, under no bead", x.strand(1, 2), 1);
        x.string(3, 3);
        Check.due("knot at 2, under a bead of another colour", x.strand(1, 2), 1);
        Check.due("knot at 5", x.join(), 0);
        x.string(0, 1);
        Check.due("knot at 5, under a bead of the hiding colour", x.strand(2, 2), 0);
        Check.due("knot at 6", x.join(), 0);
        x.string(0, 1);
        Check.due("knot at 7", x.join(), 1);
        x.set(3, 1);
        Check.due("knot at 2 by the other hiding colour", x.strand(1, 2), 0);
        Check.due("knot at 5 by the other hiding colour", x.strand(2, 2), 1);
        Check.due("knot at 6 by the other hiding colour", x.strand(3, 2), 1);
        Check.due("knots that are not hidden", x.count(5), 2);
        // 240 would be the first of round 40 of 6, which begins in column 1 of three
        Supplier<Workshop> all = () -> full().loaded("abc");
        Check.due("knot at 240", all.get().join(), 0);
        Check.due("knot at 240 under colour 1", all.get().having(3, 1).join(), 1);
        Check.due("knot at 240 under colour 2", all.get().having(3, 2).join(), 0);
    }

    // ---- settings

    private static void settings() {
        setting(0, "0: the around, 3 to 15, at first 6", 3, 15, 6);
        setting(1, "1: the slant, 0 to 11, at first 1", 0, 11, 1);
        setting(2, "2: how many beads a string can hold, 5 to 240, at first 40", 5, 240, 40);
        setting(3, "3: the hiding colour, 0 to 5, at first 0", 0, 5, 0);
    }

    private static void setting(int setting, String words, int least, int greatest, int first) {
        Sentence.holds("Settings", words, () -> {
            Workshop x = new Workshop();
            Check.due("at first", x.setting(setting), first);
            Check.due("set to the least", x.set(setting, least), first);
            Check.due("the least", x.setting(setting), least);
            Check.due("set to the greatest", x.set(setting, greatest), least);
            Check.due("the greatest", x.setting(setting), greatest);
            Twins.refusedAsArgument(Workshop::new, y -> y.set(setting, least - 1));
            Twins.refusedAsArgument(Workshop::new, y -> y.set(setting, greatest + 1));
        });
    }

    // ---- exceptions

    /** Something of all that there is, and six saved states that differ. */
    private static Workshop busy() {
        Workshop x = Workshop.withChart("abc/bca").bought(0, 600).bought(1, 40).bought(2, 9);
        x.strung("4a3b2c").joined().strung("5a").having(2, 12).joined();
        x.crush(1);
        x.unpick(2);
        return x.type("12ab/3c/");
    }

    private static void refusedCalls() {
        Supplier<Workshop> made = TermSentences::busy;
        Twins.refusedAsArgument(made, Workshop::load);
        Twins.refusedAsState(() -> busy().retype("ab/c"), Workshop::load);
        Twins.refusedAsArgument(made, x -> x.turn(5));
        Twins.refusedAsState(() -> busy().loaded("12a"), x -> x.turn(4));
        Twins.refusedAsArgument(made, x -> x.recolour(1, 6));
        Twins.refusedAsIndex(made, x -> x.set(4, 5));
        Twins.refusedAsArgument(made, x -> x.set(0, 16));
        Twins.refusedAsArgument(made, x -> x.buy(1, 101));
        Twins.refusedAsState(made, x -> x.buy(0, 1));
        Twins.refusedAsArgument(made, x -> x.string(6, 1));
        Twins.refusedAsState(made, x -> x.string(5, 1));
        Twins.refusedAsArgument(made, x -> x.stringNext(61));
        Twins.refusedAsState(made, x -> x.stringNext(60));
        Twins.refusedAsArgument(made, Workshop::stringRow);
        Twins.refusedAsState(() -> busy().retype("2ab60c"), Workshop::stringRow);
        Twins.refusedAsState(() -> busy().strung("2a").joined(), Workshop::join);
        Twins.refusedAsIndex(made, x -> x.crush(11));
        Twins.refusedAsArgument(made, x -> x.unpick(0));
        Twins.refusedAsState(made, x -> x.unpick(12));
        Twins.refusedAsArgument(made, x -> x.append(32));
        Twins.refusedAsState(() -> busy().retype("a".repeat(60)), x -> x.append('a'));
        Workshop nothingSaved = new Workshop().type("ab");
        Check.state("undo", nothingSaved, nothingSaved::undo);
        refusedLooks(made);
    }

    private static void refusedLooks(Supplier<Workshop> made) {
        Twins.refusedAsIndex(made, x -> x.cell(2, 0));
        Twins.refusedAsArgument(made, x -> x.pattern(240, 0));
        Twins.refusedAsIndex(made, x -> x.bead(11, 0));
        Twins.refusedAsArgument(made, x -> x.bead(0, 4));
        Twins.refusedAsIndex(made, x -> x.strand(2, 0));
        Twins.refusedAsArgument(made, x -> x.strand(0, 4));
        Twins.refusedAsArgument(made, x -> x.colour(0, 6));
        Twins.refusedAsArgument(made, x -> x.count(13));
        Twins.refusedAsIndex(made, x -> x.setting(4));
        Twins.refusedAsArgument(made, x -> x.needed(0, 241));
        Twins.refusedAsArgument(made, x -> x.plan(241, 0));
    }

    /** In busy() the pattern is "abcabc" and then "cabcab", and the beads are "aaabbbccaaa". */
    private static void looks() {
        Supplier<Workshop> made = TermSentences::busy;
        Check.dueText("the beads", made.get().beads(), "aaabbbccaaa");
        Check.dueText("the strings", made.get().begins(), "0 8");
        Twins.answered(8, made, x -> x.firstError(true));
        Twins.answered(4, made, x -> x.firstError(false));
        Twins.answered(1, made, x -> x.cell(1, 0));
        Twins.answered(0, made, x -> x.pattern(239, 0));
        Twins.answered(2, made, x -> x.bead(10, 3));
        Twins.answered(8, made, x -> x.strand(1, 0));
        Twins.answered(2, made, x -> x.colour(2, 2));
        Twins.answered(2, made, x -> x.count(9));
        Twins.answered(12, made, x -> x.setting(2));
        Twins.answered(80, made, x -> x.needed(1, 240));
        // from 0 to 10, 20, 30, 39, 49, 59, 69, 79, 88, 98 and 108, where the rounds begin again
        Twins.answered(25, made, x -> x.plan(240, -1));
        Twins.answered(1, made, Workshop::firstWrong);
        Twins.answered(4, made, Workshop::bestCrush);
        Twins.answered(0, made, Workshop::bestSlant);
        // seven are wrong now, by 0, 1 and 3, eight by 2, and six by 4
        Twins.answered(4, made, Workshop::bestTurn);
        Twins.answered(7, made, x -> Math.round(x.wrongShare() * 11));
    }

    private static void severalExceptions() {
        // not complete, and more than 10 rows, more than 12 cells, or rows of two lengths
        for (String text : new String[] {"a/b/c/d/e/f/a/b/c/d/e/", "13a2", "a/ab/", "13a/a2"}) {
            Twins.refusedAsArgument(() -> new Workshop().type(text), Workshop::load);
        }
        Supplier<Workshop> wide = () -> Workshop.withChart("12a");
        Twins.refusedAsArgument(wide, x -> x.turn(-1));
        Twins.refusedAsArgument(wide, x -> x.turn(5));
        Twins.refusedAsIndex(Workshop::new, x -> x.set(-1, -1));
        Twins.refusedAsIndex(Workshop::new, x -> x.set(4, 241));
        Supplier<Workshop> bought = () -> new Workshop().bought(0, 600);
        Twins.refusedAsArgument(bought, x -> x.buy(0, 0));
        Twins.refusedAsArgument(bought, x -> x.buy(0, 101));
        bothOfStringing(Workshop::new);
        bothOfStringing(TermSentences::full);
        bothOfStringing(() -> Workshop.rich().having(2, 5).strung("5a"));
        Twins.refusedAsArgument(Workshop::new, x -> x.unpick(0));
        Twins.refusedAsArgument(Workshop::new, x -> x.unpick(241));
        Supplier<Workshop> fullBuffer = () -> new Workshop().type("a".repeat(60));
        Twins.refusedAsArgument(fullBuffer, x -> x.append(32));
        Twins.refusedAsArgument(fullBuffer, x -> x.append(127));
        for (int what : new int[] {-1, 4}) {
            Twins.refusedAsIndex(Workshop::new, x -> x.bead(0, what));
            Twins.refusedAsIndex(Workshop::new, x -> x.bead(-1, what));
            Twins.refusedAsIndex(Workshop::new, x -> x.strand(1, what));
            Twins.refusedAsIndex(Workshop::new, x -> x.strand(-1, what));
        }
    }

    /** Nothing can be strung here, and the arguments or the buffer are wrong too. */
    private static void bothOfStringing(Supplier<Workshop> made) {
        Twins.refusedAsArgument(made, x -> x.string(-1, 60));
        Twins.refusedAsArgument(made, x -> x.string(6, 60));
        Twins.refusedAsArgument(made, x -> x.string(0, 0));
        Twins.refusedAsArgument(made, x -> x.string(0, 61));
        Twins.refusedAsArgument(made, x -> x.stringNext(0));
        Twins.refusedAsArgument(made, x -> x.stringNext(61));
        ToLongFunction<Workshop> stringRow = Workshop::stringRow;
        for (String text : new String[] {"", "60a2", "60a60a60a60ag", "60a/60a"}) {
            Twins.refusedAsArgument(() -> made.get().type(text), stringRow);
        }
    }
}

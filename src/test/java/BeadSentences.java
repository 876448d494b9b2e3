import java.util.function.Supplier;
import java.util.function.ToLongFunction;

/** Promises 6 to 9: buy, string, stringNext, stringRow. */
final class BeadSentences {
    private static final int[] FAR = {Integer.MIN_VALUE, Integer.MAX_VALUE};

    private BeadSentences() {
    }

    static void hold() {
        buy();
        string();
        stringRefused();
        stringNext();
        stringNextRefused();
        stringRow();
        stringRowRefused();
    }

    // ---- promise 6

    private static void buy() {
        Sentence.holds(6, "Buys beads.", () -> {
            Workshop x = new Workshop();
            x.buy(0, 1);
            x.buy(5, 100);
            Check.due("stock of 0", x.colour(0, 0), 1);
            Check.due("stock of 5", x.colour(5, 0), 100);
            Check.due("stock", x.count(6), 101);
            Check.due("bought", x.count(7), 101);
        });
        Sentence.holds(6, "Undoable.", () -> {
            Twins.undoable(12, () -> new Workshop().bought(2, 5), x -> x.buy(2, 7));
            Twins.undoable(12, () -> Twins.filled(new Workshop().bought(2, 5)), x -> x.buy(2, 7));
        });
        Sentence.holds(6, "`colour`: 0 to 5", () -> {
            Check.due("colour 0", new Workshop().buy(0, 3), 3);
            Check.due("colour 5", new Workshop().buy(5, 3), 3);
            for (int colour : new int[] {-1, 6, FAR[0], FAR[1]}) {
                Twins.refusedAsArgument(Workshop::new, x -> x.buy(colour, 3));
            }
        });
        Sentence.holds(6, "`many`: 1 to 100", () -> {
            Check.due("buy 1", new Workshop().buy(3, 1), 1);
            Check.due("buy 100", new Workshop().buy(3, 100), 100);
        });
        Sentence.holds(6, "Returns the stock of this colour then.", () -> {
            Workshop x = new Workshop().bought(1, 50).bought(2, 30);
            Check.due("buy more", x.buy(2, 5), 35);
            x.string(2, 20);
            Check.due("when some are strung", x.buy(2, 1), 16);
            x.crush(0);
            Check.due("when one is crushed", x.buy(2, 1), 17);
            x.unpick(9);
            Check.due("when some are unpicked", x.buy(2, 1), 27);
            Check.due("another colour", x.buy(3, 1), 1);
        });
        Sentence.holds(6, "Throws `IllegalArgumentException` if an argument is out of range", () -> {
            for (int many : new int[] {0, -1, 101, FAR[0], FAR[1]}) {
                Twins.refusedAsArgument(Workshop::new, x -> x.buy(0, many));
                Twins.refusedAsArgument(() -> new Workshop().bought(0, 600), x -> x.buy(0, many));
                Twins.refusedAsArgument(Workshop::new, x -> x.buy(6, many));
            }
        });
        Sentence.holds(6,
                "Throws `IllegalStateException` if more than 600 beads of this colour would have been "
                + "bought so far", BeadSentences::sixHundred);
    }

    private static void sixHundred() {
        Supplier<Workshop> most = () -> new Workshop().bought(4, 599);
        Check.due("the 600th", most.get().buy(4, 1), 600);
        Check.due("500 and 100", new Workshop().bought(4, 500).buy(4, 100), 600);
        Twins.refusedAsState(most, x -> x.buy(4, 2));
        Twins.refusedAsState(most, x -> x.buy(4, 100));
        Twins.refusedAsState(() -> new Workshop().bought(4, 501), x -> x.buy(4, 100));
        Supplier<Workshop> all = () -> new Workshop().bought(4, 600);
        Twins.refusedAsState(all, x -> x.buy(4, 1));
        Twins.refusedAsState(() -> all.get().strung("40e"), x -> x.buy(4, 1));
        Supplier<Workshop> crushed = () -> {
            Workshop x = all.get().strung("40e");
            x.crush(0);
            x.unpick(39);
            return x;
        };
        Twins.refusedAsState(crushed, x -> x.buy(4, 1));
        Check.due("another colour", all.get().buy(3, 100), 100);
        Check.due("600 of each", Workshop.rich().count(7), 3600);
        Workshop undone = most.get();
        undone.buy(4, 1);
        undone.undo();
        Check.due("the 600th when it was undone", undone.buy(4, 1), 600);
    }

    // ---- promise 7

    private static void string() {
        Sentence.holds(7, "Strings beads of one colour.", () -> {
            Workshop x = new Workshop().bought(3, 5).bought(1, 9);
            x.string(3, 4);
            x.string(1, 2);
            Check.dueText("beads", x.beads(), "ddddbb");
            Check.due("stock of 3", x.colour(3, 0), 1);
            Check.due("stock of 1", x.colour(1, 0), 7);
            Check.due("bought of 3", x.colour(3, 1), 5);
        });
        Sentence.holds(7, "Undoable.", () -> {
            Twins.undoable(4, () -> new Workshop().bought(3, 5), x -> x.string(3, 4));
            Twins.undoable(4, () -> Twins.filled(new Workshop().bought(3, 5)), x -> x.string(3, 4));
        });
        Sentence.holds(7, "`colour`: 0 to 5", () -> {
            Check.due("colour 0", Workshop.rich().string(0, 3), 3);
            Check.due("colour 5", Workshop.rich().string(5, 3), 3);
            for (int colour : new int[] {-1, 6, FAR[0], FAR[1]}) {
                Twins.refusedAsArgument(Workshop::rich, x -> x.string(colour, 3));
            }
        });
        Sentence.holds(7, "`many`: 1 to 60", () -> {
            Check.due("string 1", Workshop.rich().string(1, 1), 1);
            Check.due("string 60", Workshop.rich().having(2, 60).string(1, 60), 60);
        });
        Sentence.holds(7, "Returns how many beads are strung then.", () -> {
            Workshop x = Workshop.rich();
            Check.due("the first 3", x.string(1, 3), 3);
            Check.due("2 more", x.string(2, 2), 5);
            x.join();
            Check.due("4 on another string", x.string(1, 4), 9);
            x.crush(0);
            Check.due("1 when one is crushed", x.string(1, 1), 9);
        });
    }

    private static void stringRefused() {
        Sentence.holds(7, "Throws `IllegalArgumentException` if an argument is out of range", () -> {
            Supplier<Workshop> made = () -> Workshop.rich().having(2, 240);
            for (int many : new int[] {0, -1, 61, 100, FAR[0], FAR[1]}) {
                Twins.refusedAsArgument(made, x -> x.string(0, many));
                Twins.refusedAsArgument(Workshop::new, x -> x.string(0, many));
                Twins.refusedAsArgument(made, x -> x.string(6, many));
            }
        });
        Sentence.holds(7, "Throws `IllegalStateException` if there are not so many in the stock",
                () -> {
            Supplier<Workshop> seven = () -> new Workshop().bought(2, 7).bought(3, 100);
            Check.due("all of the stock", seven.get().string(2, 7), 7);
            Twins.refusedAsState(seven, x -> x.string(2, 8));
            Twins.refusedAsState(seven, x -> x.string(1, 1));
            Supplier<Workshop> three = () -> seven.get().strung("4c");
            Check.due("the rest of the stock", three.get().string(2, 3), 7);
            Twins.refusedAsState(three, x -> x.string(2, 4));
            Twins.refusedAsState(() -> seven.get().strung("7c"), x -> x.string(2, 1));
            Workshop back = seven.get().strung("7c");
            back.crush(0);
            back.unpick(6);
            Check.thrownBy(() -> back.string(2, 7));
            Check.due("what was crushed is lost", back.count(2), 0);
            Check.due("what was unpicked is there", back.string(2, 6), 6);
        });
        Sentence.holds(7, "more than 240 beads would be strung", () ->
                noMoreThan240(Way.ONE_COLOUR));
        Sentence.holds(7, "or the last string cannot hold them", () ->
                noMoreThanTheString(Way.ONE_COLOUR));
    }

    /** The three ways to string so many beads. */
    private enum Way {
        ONE_COLOUR, NEXT, ROW;

        /** The row is put into the buffer ahead of the call. */
        Supplier<Workshop> ahead(Supplier<Workshop> made, int many) {
            return this == ROW ? () -> made.get().type(many == 1 ? "b" : many + "b") : made;
        }

        ToLongFunction<Workshop> call(int many) {
            switch (this) {
                case ONE_COLOUR: return x -> x.string(1, many);
                case NEXT: return x -> x.stringNext(many);
                default: return Workshop::stringRow;
            }
        }

        void strings(String what, long due, Supplier<Workshop> made, int many) {
            Check.due(what, call(many).applyAsLong(ahead(made, many).get()), due);
        }

        void refuses(Supplier<Workshop> made, int many) {
            Twins.refusedAsState(ahead(made, many), call(many));
        }
    }

    /** 180 beads on a string, and the rest on a second one that can hold up to 240. */
    private static Supplier<Workshop> withBeads(int many) {
        return () -> Workshop.rich().having(2, 240).strung("60a60b60c").joined()
                .strung(many - 180 + "f");
    }

    private static void noMoreThan240(Way way) {
        for (int left : new int[] {1, 2, 20, 55}) {
            way.strings("up to 240", 240, withBeads(240 - left), left);
            way.refuses(withBeads(240 - left), left + 1);
            way.refuses(withBeads(240 - left), 60);
        }
        way.refuses(withBeads(240), 1);
        way.refuses(withBeads(240), 60);
        way.refuses(() -> withBeads(240).get().joined(), 1);
    }

    private static void noMoreThanTheString(Way way) {
        for (int holds : new int[] {5, 6, 40, 59}) {
            Supplier<Workshop> made = () -> Workshop.rich().having(2, holds);
            way.strings("a full string", holds, made, holds);
            way.refuses(made, holds + 1);
            way.refuses(made, 60);
            Supplier<Workshop> three = () -> made.get().strung("3c");
            way.strings("a full string", holds, three, holds - 3);
            way.refuses(three, holds - 2);
            Supplier<Workshop> second = () -> three.get().joined().strung("2d");
            way.strings("a full second string", holds + 3, second, holds - 2);
            way.refuses(second, holds - 1);
        }
        way.refuses(() -> Workshop.rich().strung("9c").having(2, 5), 1);
        way.refuses(() -> Workshop.rich().strung("5c").having(2, 5), 1);
        way.strings("one more", 5, () -> Workshop.rich().strung("4c").having(2, 5), 1);
    }

    // ---- promise 8

    /** In rounds of 3: "aba", "dcd", "aba", "dcd" and so on. */
    private static Workshop spiral() {
        return Workshop.withChart("ab/cd").having(0, 3);
    }

    private static void stringNext() {
        Sentence.holds(8, "Strings the next beads as the pattern tells.", () -> {
            Workshop x = spiral().bought(0, 50).bought(1, 50).bought(2, 50).bought(3, 50);
            x.stringNext(2);
            x.stringNext(3);
            x.stringNext(7);
            // round 2 is in row 0 from column 2, which is column 0; round 3 in row 1 from column 1
            Check.dueText("beads", x.beads(), "abadcdabadcd");
            Check.due("wrong beads", x.count(4), 0);
            x.string(0, 1);
            x.stringNext(2);
            Check.dueText("beads behind another one", x.beads(), "abadcdabadcdaba");
            x.crush(0);
            x.stringNext(1);
            Check.dueText("one for the number that is free", x.beads(), "badcdabadcdabaa");
        });
        Sentence.holds(8, "Undoable.", () -> {
            Twins.undoable(4, () -> Workshop.withChart("ab").bought(0, 9).bought(1, 9),
                    x -> x.stringNext(4));
            Twins.undoable(4, () -> Twins.filled(new Workshop().bought(0, 9)), x -> x.stringNext(4));
        });
        Sentence.holds(8, "`many`: 1 to 60", () -> {
            Check.due("stringNext 1", Workshop.rich().stringNext(1), 1);
            Check.due("stringNext 60", Workshop.rich().having(2, 60).stringNext(60), 60);
        });
        Sentence.holds(8, "Returns how many beads are strung then.", () -> {
            Workshop x = Workshop.rich().strung("7f");
            Check.due("behind 7", x.stringNext(3), 10);
            Check.due("behind 10", x.stringNext(1), 11);
        });
    }

    private static void stringNextRefused() {
        Sentence.holds(8, "Throws `IllegalArgumentException` if many is out of range", () -> {
            for (int many : new int[] {0, -1, 61, FAR[0], FAR[1]}) {
                Twins.refusedAsArgument(() -> Workshop.rich().having(2, 240),
                        x -> x.stringNext(many));
                Twins.refusedAsArgument(Workshop::new, x -> x.stringNext(many));
            }
        });
        Sentence.holds(8, "Throws `IllegalStateException` if there are not enough of a colour in the "
                + "stock", () -> {
            // six beads need 2 of colours 0 and 3, and 1 of colours 1 and 2
            Supplier<Workshop> enough = () ->
                    spiral().bought(0, 2).bought(1, 1).bought(2, 1).bought(3, 2);
            Check.due("the whole stock", enough.get().stringNext(6), 6);
            Twins.refusedAsState(enough, x -> x.stringNext(7));
            int[][] oneLess = {{1, 1, 1, 2}, {2, 0, 1, 2}, {2, 1, 0, 2}, {2, 1, 1, 1}};
            for (int[] stock : oneLess) {
                Twins.refusedAsState(() -> withStock(spiral(), stock), x -> x.stringNext(6));
            }
            Twins.refusedAsState(() -> spiral().bought(0, 2), x -> x.stringNext(3));
            Check.due("as long as it is enough", withStock(spiral(), 1, 1).stringNext(2), 2);
            Twins.refusedAsState(() -> new Workshop().bought(1, 100), x -> x.stringNext(1));
        });
        Sentence.holds(8, "more than 240 beads would be strung", () ->
                noMoreThan240(Way.NEXT));
        Sentence.holds(8, "or the last string cannot hold them", () ->
                noMoreThanTheString(Way.NEXT));
    }

    private static Workshop withStock(Workshop x, int... stock) {
        for (int colour = 0; colour < stock.length; colour++) {
            x.bought(colour, stock[colour]);
        }
        return x;
    }

    // ---- promise 9

    private static void stringRow() {
        Sentence.holds(9, "Strings the row of beads in the buffer, and clears the buffer.", () -> {
            Workshop x = Workshop.rich().type("2ab10c");
            x.stringRow();
            Check.dueText("beads", x.beads(), "aabcccccccccc");
            Check.due("length of the buffer", x.clearBuffer(), 0);
            x.strung("f9e");
            Check.dueText("beads then", x.beads(), "aabccccccccccfeeeeeeeee");
            String sixty = "abcdef".repeat(10);
            Workshop full = Workshop.rich().having(2, 60).strung(sixty);
            Check.dueText("of a full buffer", full.beads(), sixty);
            Workshop most = Workshop.rich().having(2, 240).strung("60a59b2c60d");
            Check.due("of 181 beads", most.count(2), 181);
            Check.due("of colour 0", most.colour(0, 2), 60);
            Check.due("of colour 1", most.colour(1, 2), 59);
            Check.due("of colour 2", most.colour(2, 2), 2);
            Check.due("stock of 3", most.colour(3, 0), 540);
        });
        Sentence.holds(9, "Undoable.", () -> {
            Twins.undoable(6, () -> Workshop.withChart("f").bought(0, 9).bought(1, 9).type("2a3ba"),
                    Workshop::stringRow);
            Twins.undoable(3, () -> Twins.filled(new Workshop().bought(0, 9)).type("3a"),
                    Workshop::stringRow);
        });
        Sentence.holds(9, "Returns how many beads are strung then.", () -> {
            Check.due("one", Workshop.rich().type("f").stringRow(), 1);
            Check.due("behind 7", Workshop.rich().strung("7f").type("3ab").stringRow(), 11);
        });
    }

    private static void stringRowRefused() {
        Sentence.holds(9, "Throws `IllegalArgumentException` if the buffer is not a complete row of "
                + "beads", () -> {
            String[] texts = {"", "2", "1", "10", "60", "a2", "a/b", "a/", "/", "g", "ag", "1a", "0a",
                "01a", "02a", "61a", "70a", "100a", "A", "`a", "2aa1b", "a12"};
            for (String text : texts) {
                Twins.refusedAsArgument(() -> Workshop.rich().having(2, 240).type(text),
                        Workshop::stringRow);
            }
        });
        Sentence.holds(9, "Throws `IllegalStateException` if there are not enough of a colour in the "
                + "stock", () -> {
            Supplier<Workshop> made = () -> withStock(new Workshop(), 3, 2, 0, 0, 0, 4);
            Check.due("the whole stock", made.get().type("2a2ba4f").stringRow(), 9);
            for (String text : new String[] {"4a", "2ab2a", "aaaa", "3b", "3a3b", "5f", "4ff",
                "3a2b4fc", "c", "60a", "a59f"}) {
                Twins.refusedAsState(() -> made.get().having(2, 240).type(text),
                        Workshop::stringRow);
            }
        });
        Sentence.holds(9, "more than 240 beads would be strung", () -> {
            noMoreThan240(Way.ROW);
            Supplier<Workshop> made = () -> Workshop.rich().having(2, 240);
            Check.due("240 at once", made.get().type("60a60b60c60d").stringRow(), 240);
            for (String text : new String[] {"60a60b60c60de", "60a".repeat(5), "60a".repeat(10),
                "60a60b60c60d".repeat(5)}) {
                Twins.refusedAsState(() -> made.get().type(text), Workshop::stringRow);
            }
        });
        Sentence.holds(9, "or the last string cannot hold them", () -> {
            noMoreThanTheString(Way.ROW);
            Check.due("40 of two parts", Workshop.rich().type("20a20b").stringRow(), 40);
            Twins.refusedAsState(() -> Workshop.rich().type("20a21b"), Workshop::stringRow);
            Twins.refusedAsState(() -> Workshop.rich().type("40ab"), Workshop::stringRow);
        });
    }
}

import java.util.function.Supplier;

/** What the document says of input texts, and promises 13 to 15: append, clearBuffer, firstError. */
final class TextSentences {
    private static final int[] FAR = {Integer.MIN_VALUE, Integer.MAX_VALUE};

    private TextSentences() {
    }

    static void hold() {
        rowsOfBeads();
        charts();
        errors();
        append();
        clearBuffer();
        firstError();
    }

    /** The buffer with this text, read as a chart and as a row of beads. */
    private static void errorsOf(String text, int asChart, int asRow) {
        Twins.answered(asChart, () -> new Workshop().type(text), x -> x.firstError(true));
        Twins.answered(asRow, () -> new Workshop().type(text), x -> x.firstError(false));
    }

    /** No character is an error, as a chart and as a row. */
    private static void isBegin(String text) {
        errorsOf(text, text.length(), text.length());
    }

    private static void isRow(String text, String beads) {
        Workshop x = Workshop.rich().having(2, 240).strung(text);
        Check.dueText("the row " + text, x.beads(), beads);
        isBegin(text);
    }

    private static void isNoRow(String text) {
        Twins.refusedAsArgument(() -> Workshop.rich().having(2, 240).type(text),
                Workshop::stringRow);
    }

    private static void isNoChart(String text) {
        Twins.refusedAsArgument(() -> new Workshop().type(text), Workshop::load);
    }

    // ---- input texts

    private static void rowsOfBeads() {
        String heading = "Input texts";
        Sentence.holds(heading, "A row of beads as a text consists of one or more parts", () -> {
            isRow("a", "a");
            isRow("ab", "ab");
            isRow("abcdef".repeat(10), "abcdef".repeat(10));
            isNoRow("");
            Twins.answered(0, Workshop::new, x -> x.firstError(false));
        });
        Sentence.holds(heading, "one behind the other without anything between them", () -> {
            for (String between : new String[] {"/", ",", "-", ".", "_", ":", "0"}) {
                isNoRow("a" + between + "b");
                errorsOf("a" + between + "b", between.equals("/") ? 3 : 1, 1);
                isNoRow("2a" + between + "3b");
            }
        });
        Sentence.holds(heading, "each one a letter \"a\" to \"f\" for the colours 0 to 5", () -> {
            isRow("f", "f");
            isRow("abcdef", "abcdef");
            Workshop x = Workshop.rich().strung("abcdef");
            for (int colour = 0; colour < 6; colour++) {
                Check.due("letter " + colour, x.bead(colour, 0), colour);
            }
            for (String letter : new String[] {"`", "g", "A", "F", "@", "G", "z", ":", "!", "~"}) {
                isNoRow(letter);
                isNoChart(letter);
                errorsOf(letter, 0, 0);
                errorsOf("2" + letter, 1, 1);
                errorsOf("a" + letter, 1, 1);
            }
        });
        Sentence.holds(heading, "with a number ahead of it, 2 to 60", () -> {
            for (int number = 2; number <= 60; number++) {
                isRow(number + "a", "a".repeat(number));
            }
            for (int number : new int[] {0, 1, 61, 62, 69, 70, 99, 100, 600}) {
                isNoRow(number + "a");
                isNoChart(number + "a");
            }
        });
        Sentence.holds(heading, "without leading zeros", () -> {
            for (String text : new String[] {"02a", "060a", "00a", "01a", "012a", "a02b", "2a03b"}) {
                isNoRow(text);
                isNoChart(text);
            }
            isRow("20a", "a".repeat(20));
        });
        Sentence.holds(heading, "or none: so many beads of this colour (one, if there is no number)",
                () -> {
            isRow("a2bc3d", "abbcddd");
            isRow("2ab", "aab");
            isRow("3cc", "cccc");
            isRow("59f", "f".repeat(59));
            isRow("60f", "f".repeat(60));
        });
    }

    private static void charts() {
        String heading = "Input texts";
        Sentence.holds(heading,
                "A chart as a text consists of one or more rows of beads with \"/\" between them.",
                () -> {
            Check.due("one row", new Workshop().type("a").load(), 1);
            Check.due("two rows", new Workshop().type("a/b").load(), 2);
            for (String text : new String[] {"", "/", "a/", "/a", "a//b", "a/b/", "a,b", "a/2", "2/a"}) {
                isNoChart(text);
            }
            isNoRow("a/b");
        });
    }

    private static void errors() {
        String heading = "Input texts";
        Sentence.holds(heading, "The buffer has at most 60 characters.", () -> {
            Workshop x = new Workshop().type("a".repeat(59));
            Check.due("the 60th", x.append('a'), 60);
            Twins.refusedAsState(() -> new Workshop().type("a".repeat(60)), y -> y.append('a'));
        });
        Sentence.holds(heading, "The buffer is read from left to right", () -> {
            errorsOf("agAB", 1, 1);
            errorsOf("0g", 0, 0);
            errorsOf("abc0d0", 3, 3);
            errorsOf("a/b//c/", 4, 1);
        });
        Sentence.holds(heading, "a character is a syntax error of a kind if no text of this kind, of any "
                + "length, begins with the characters before it and this character", () -> {
            // what is not complete can still go on, also behind the 60th character
            isBegin("1");
            isBegin("2");
            isBegin("6");
            isBegin("60");
            isBegin("a59");
            errorsOf("a/", 2, 1);
            errorsOf("a/2", 3, 1);
            isBegin("60a".repeat(19) + "bc1");
            isBegin("a".repeat(58) + "60");
            errorsOf("a".repeat(59) + "/", 60, 59);
            // what is no more than a syntax may be no chart that can be loaded
            errorsOf("a" + "/b".repeat(29), 59, 1);
            isBegin("60a60b");
            errorsOf("ab/a", 4, 2);
            // the number 1 needs a second digit, 7 to 9 can have none, and 6 only a zero
            errorsOf("1a", 1, 1);
            errorsOf("7a", 2, 2);
            errorsOf("70", 1, 1);
            errorsOf("61", 1, 1);
            errorsOf("600", 2, 2);
            errorsOf("599", 2, 2);
            errorsOf("100", 2, 2);
            errorsOf("2/", 1, 1);
            errorsOf("a2/", 2, 2);
        });
    }

    // ---- promise 13

    private static void append() {
        Sentence.holds(13, "Appends a character to the buffer.", () -> {
            Workshop x = new Workshop();
            x.append('b');
            x.append('/');
            x.append('c');
            x.load();
            Check.dueText("what was appended", x.cells(), "b/c");
            Check.due("append is not undoable", x.count(12), 1);
        });
        Sentence.holds(13, "`code`: the character code, 33 to 126", () -> {
            for (int code = 33; code <= 126; code++) {
                Check.due("append " + code, new Workshop().append(code), 1);
            }
        });
        Sentence.holds(13, "Returns the new length of the buffer.", () -> {
            Workshop x = new Workshop();
            for (int length = 1; length <= 60; length++) {
                Check.due("append", x.append(33 + length), length);
            }
            x.clearBuffer();
            Check.due("append to a cleared buffer", x.append(126), 1);
        });
        Sentence.holds(13, "Throws `IllegalArgumentException` if code is not 33 to 126", () -> {
            for (int code : new int[] {32, 127, 0, -1, 128, 10, 255, 256 + 97, FAR[0], FAR[1]}) {
                Twins.refusedAsArgument(Workshop::new, x -> x.append(code));
                Twins.refusedAsArgument(() -> new Workshop().type("ab"), x -> x.append(code));
            }
        });
        Sentence.holds(13, "Throws `IllegalStateException` if the buffer has 60 characters", () -> {
            Supplier<Workshop> made = () -> new Workshop().type("2a".repeat(30));
            Twins.refusedAsState(made, x -> x.append('a'));
            Twins.refusedAsState(made, x -> x.append('~'));
            Workshop x = made.get();
            Check.thrownBy(() -> x.append('a'));
            Check.due("the length", x.clearBuffer(), 60);
            Check.due("one that has 59", new Workshop().type("a".repeat(59)).append('!'), 60);
        });
    }

    // ---- promise 14

    private static void clearBuffer() {
        Sentence.holds(14, "Clears the buffer.", () -> {
            Workshop x = new Workshop().type("2ab");
            x.clearBuffer();
            Check.due("the length", x.clearBuffer(), 0);
            x.type("f").load();
            Check.dueText("only what came behind it", x.cells(), "f");
            Check.due("clearBuffer is not undoable", x.count(12), 1);
            Workshop y = new Workshop().type("a");
            y.clearBuffer();
            Check.due("the digest behind it", y.digest(), new Workshop().digest());
        });
        Sentence.holds(14, "Returns the length that it had.", () -> {
            Check.due("of an empty one", new Workshop().clearBuffer(), 0);
            Check.due("of one", new Workshop().type("!").clearBuffer(), 1);
            Check.due("of a full one", new Workshop().type("~".repeat(60)).clearBuffer(), 60);
            Check.due("behind load", Workshop.withChart("abc").clearBuffer(), 0);
        });
    }

    // ---- promise 15

    private static void firstError() {
        Sentence.holds(15, "Finds the first syntax error of the buffer.", () -> {
            errorsOf("ab!cd!", 2, 2);
            errorsOf("a/b!c/", 3, 1);
            Workshop x = new Workshop().type("ab!");
            x.firstError(true);
            Check.due("firstError is not undoable", x.count(12), 0);
        });
        Sentence.holds(15, "`isChart`: whether it is read as a chart, otherwise as a row of beads",
                () -> {
            errorsOf("a/b", 3, 1);
            errorsOf("/", 0, 0);
            errorsOf("2a/3b/c", 7, 2);
        });
        Sentence.holds(15, "Returns the index of the first character that is a syntax error", () -> {
            for (int index = 0; index < 60; index++) {
                String text = "a".repeat(index) + "g" + "b".repeat(59 - index);
                errorsOf(text, index, index);
            }
        });
        Sentence.holds(15, "the length of the buffer if there is none", () -> {
            errorsOf("", 0, 0);
            errorsOf("a", 1, 1);
            errorsOf("12", 2, 2);
            errorsOf("a/", 2, 1);
            isBegin("a".repeat(60));
            isBegin("60f".repeat(20));
        });
    }
}

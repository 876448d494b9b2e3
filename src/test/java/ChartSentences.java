import java.util.function.Supplier;

/** Promises 1 to 5: a new object, load, turn, recolour, set. */
final class ChartSentences {
    private ChartSentences() {
    }

    static void hold() {
        Sentence.holds(1, "Creates a workshop with a chart of one cell, without beads, and with an "
                + "empty buffer", ChartSentences::newObject);
        load();
        loadRefused();
        turn();
        recolour();
        set();
    }

    private static void newObject() {
        Workshop x = new Workshop();
        Check.dueText("chart", x.cells(), "a");
        Check.dueText("beads", x.beads(), "");
        Check.dueText("begins", x.begins(), "0");
        Check.dueAll("count", x::count, 1, 1, 0, 1, 0, 0, 0, 0, 0, 0, 1, 40, 0);
        Check.dueAll("setting", x::setting, 6, 1, 40, 0);
        Check.due("firstError", x.firstError(false), 0);
        Check.due("length of the buffer", x.clearBuffer(), 0);
        Workshop other = new Workshop();
        other.buy(0, 1);
        other.append('a');
        Check.due("stock when another one has bought", x.count(6), 0);
        Check.due("buffer when another one has typed", x.clearBuffer(), 0);
    }

    // ---- promise 2

    private static void load() {
        Sentence.holds(2, "Takes the chart in the buffer, and clears the buffer.", () -> {
            Workshop x = Workshop.withChart("abc/def").type("f/2e");
            Check.dueText("chart", x.cells(), "abc/def");
            x.retype("f/e").load();
            Check.dueText("the chart then", x.cells(), "f/e");
            Check.due("length of the buffer", x.clearBuffer(), 0);
            Check.dueText("numbers 2 and 12", Workshop.withChart("2a10b/12c").cells(),
                    "aabbbbbbbbbb/cccccccccccc");
            String sixty = "aaabbbcccdde/fffeeedddccb/aabbccddeeff/abcdefabcdef/12f/9a3b";
            Check.due("a full buffer", sixty.length(), 60);
            Check.dueText("its chart", Workshop.withChart(sixty).cells(), "aaabbbcccdde/fffeeedddccb/"
                    + "aabbccddeeff/abcdefabcdef/ffffffffffff/aaaaaaaaabbb");
        });
        Sentence.holds(2, "(Beads that are strung stay.)", () -> {
            Workshop x = Workshop.richWith("ab", "3ab").joined().strung("c");
            x.loaded("c/d");
            Check.dueText("beads", x.beads(), "aaabc");
            Check.dueText("begins", x.begins(), "0 4");
            Check.due("stock of 0", x.colour(0, 0), 597);
        });
        Sentence.holds(2, "Undoable.", () -> {
            Twins.undoable(2, () -> Workshop.withChart("ab").type("c/d"), Workshop::load);
            Twins.undoable(10, () -> Twins.filled(Workshop.withChart("ab").type(
                    TermSentences.GREATEST)), Workshop::load);
            Workshop x = Workshop.withChart(TermSentences.GREATEST).loaded("f");
            x.undo();
            Check.dueText("the greatest chart again", x.cells(),
                    String.join("/", TermSentences.GREATEST_ROWS));
        });
        Sentence.holds(2, "Returns the number of its rows.", () -> {
            String[] rows = {"a", "b", "c", "d", "e", "f", "a", "b", "c", "d"};
            StringBuilder text = new StringBuilder();
            for (int many = 1; many <= 10; many++) {
                text.append(many == 1 ? "" : "/").append(rows[many - 1]);
                Workshop x = new Workshop().type(text.toString());
                Check.due("load " + text, x.load(), many);
                Check.due("rows", x.count(0), many);
            }
            Check.due("12 columns", new Workshop().type("12a").load(), 1);
        });
    }

    private static void loadRefused() {
        Sentence.holds(2, "Throws `IllegalArgumentException` if the buffer is not a complete chart",
                () -> {
            String[] texts = {"", "2", "1", "12", "60", "a2", "a/", "/", "/a", "a//b", "a/b/", "a/2",
                "g", "A", "`", "0a", "1a", "02a", "61a", "a61b", "100a", "ab/1c", "a,b", "ab/cg"};
            for (String text : texts) {
                Twins.refusedAsArgument(() -> Workshop.withChart("bc").type(text), Workshop::load);
            }
        });
        Sentence.holds(2, "Throws `IllegalStateException` if it has more than 10 rows", () -> {
            Check.due("10 rows", new Workshop().type("a/b/c/d/e/f/a/b/c/d").load(), 10);
            Check.due("10 rows of 12", new Workshop().type(TermSentences.GREATEST).load(), 10);
            loadIsUnfit("a/b/c/d/e/f/a/b/c/d/e");
            loadIsUnfit("12a/12b/12c/12d/12e/12f/12a/12b/12c/12d/12e");
            loadIsUnfit("a/b/c/d/e/f/a/b/c/d/e/f");
            loadIsUnfit("a" + "/b".repeat(29));
        });
        Sentence.holds(2, "a row has more than 12 cells", () -> {
            Check.due("12 cells by a number", new Workshop().type("12a").load(), 1);
            Check.due("12 cells by letters", new Workshop().type("abcdefabcdef").load(), 1);
            Check.due("12 cells by both", new Workshop().type("10abc/a11b/3a9b").load(), 3);
            String[] texts = {"13a", "abcdefabcdefa", "12ab", "a12b", "2a11b", "60a", "13a/13a",
                "12a/13b", "13a/12b", "12a/12b/13c", "60a60a60a", "60a".repeat(20)};
            for (String text : texts) {
                loadIsUnfit(text);
            }
        });
        Sentence.holds(2, "the rows do not all have as many cells", () -> {
            String[] texts = {"ab/a", "a/ab", "ab/ab/abc", "ab/abc/ab", "abc/ab/abc", "a/a/a/2a",
                "2a/3a", "12a/11a", "11a/12a", "a/b/c/d/e/f/a/b/c/de", "ab/c/d/e/f/a/b/c/d/e",
                "a/2b/3c", "3a/2b/c", "a/2a/a/2a"};
            for (String text : texts) {
                loadIsUnfit(text);
            }
        });
    }

    private static void loadIsUnfit(String text) {
        Twins.refusedAsState(() -> Workshop.withChart("bc").type(text), Workshop::load);
    }

    // ---- promise 3

    private static void turn() {
        Sentence.holds(3, "Turns the chart.", () -> {
            for (int how = 0; how < 5; how++) {
                Workshop x = Workshop.richWith("ab/cd", "3ab").joined().strung("c").type("2f");
                Workshop twin = Workshop.richWith("ab/cd", "3ab").joined().strung("c").type("2f");
                x.turn(how);
                Check.dueText("all but the chart", x.picture().substring(5),
                        twin.picture().substring(5));
                Check.due("how " + how + " changes the chart", x.cells().equals("ab/cd") ? 1 : 0, 0);
                Check.due("length of the buffer", x.clearBuffer(), 2);
            }
        });
        Sentence.holds(3, "`how`: 0: the columns come in the opposite order", () -> {
            turns(0, "abc/def", "cba/fed");
            turns(0, "abcd/effe", "dcba/effe");
            turns(0, "a/b", "a/b");
            turns(0, TermSentences.GREATEST, "bbbbbbbbbbaa/cccccccccbbb/ddddddddcccc/eeeeeeeddddd/"
                    + "ffffffeeeeee/aaaaafffffff/bbbbaaaaaaaa/cccbbbbbbbbb/ddcccccccccc/eddddddddddd");
        });
        Sentence.holds(3, "1: the rows come in the opposite order", () -> {
            turns(1, "ab/cd/ef", "ef/cd/ab");
            turns(1, "ab/cd", "cd/ab");
            turns(1, "abc", "abc");
            turns(1, TermSentences.GREATEST, greatestRows(9, 8, 7, 6, 5, 4, 3, 2, 1, 0));
        });
        Sentence.holds(3, "2: the first column comes behind the last one", () -> {
            turns(2, "abc/def", "bca/efd");
            turns(2, "ab/cd", "ba/dc");
            turns(2, "a/b", "a/b");
            turns(2, TermSentences.GREATEST, "abbbbbbbbbba/bbcccccccccb/cccddddddddc/ddddeeeeeeed/"
                    + "eeeeeffffffe/ffffffaaaaaf/aaaaaaabbbba/bbbbbbbbcccb/cccccccccddc/dddddddddded");
        });
        Sentence.holds(3, "3: the first row comes behind the last one", () -> {
            turns(3, "ab/cd/ef", "cd/ef/ab");
            turns(3, "ab/cd", "cd/ab");
            turns(3, "abc", "abc");
            turns(3, TermSentences.GREATEST, greatestRows(1, 2, 3, 4, 5, 6, 7, 8, 9, 0));
        });
        Sentence.holds(3,
                "4: rows become columns (the cell in row i and column j comes into row j and column i)",
                () -> {
            turns(4, "abc/def", "ad/be/cf");
            turns(4, "abc", "a/b/c");
            turns(4, "a/b/c", "abc");
            turns(4, "f", "f");
            turns(4, "9ab", "a/a/a/a/a/a/a/a/a/b");
            turns(4, "a/b/c/d/e/f/a/b/c/d", "abcdefabcd");
        });
        turnRefused();
    }

    private static String greatestRows(int... rows) {
        StringBuilder text = new StringBuilder();
        for (int row : rows) {
            text.append(text.length() == 0 ? "" : "/").append(TermSentences.GREATEST_ROWS[row]);
        }
        return text.toString();
    }

    private static void turns(int how, String chart, String due) {
        Workshop x = Workshop.withChart(chart);
        Check.due("turn " + how + " of " + chart, x.turn(how), due.split("/").length);
        Check.dueText("the chart behind turn " + how, x.cells(), due);
    }

    private static void turnRefused() {
        Sentence.holds(3, "Undoable.", () -> {
            int[] rows = {2, 2, 2, 2, 3};
            for (int how = 0; how < 5; how++) {
                int turned = how;
                Twins.undoable(rows[how], () -> Workshop.withChart("abc/def"), x -> x.turn(turned));
                Twins.undoable(rows[how], () -> Twins.filled(Workshop.withChart("abc/def")),
                        x -> x.turn(turned));
            }
        });
        Sentence.holds(3, "Returns the number of its rows then.", () -> {
            Check.due("turn 4 of ten columns", Workshop.withChart("10a").turn(4), 10);
            Check.due("turn 4 of ten rows", Workshop.withChart("a/a/a/a/a/a/a/a/a/a").turn(4), 1);
            Check.due("turn 0 of ten rows", Workshop.withChart(TermSentences.GREATEST).turn(0), 10);
            Workshop x = Workshop.withChart("abc/def");
            Check.due("turn 4", x.turn(4), 3);
            Check.due("turn 4 again", x.turn(4), 2);
            Check.dueText("the chart as it was", x.cells(), "abc/def");
        });
        Sentence.holds(3, "Throws `IllegalArgumentException` if how is not 0 to 4", () -> {
            Supplier<Workshop> made = () -> Workshop.withChart("abc/def");
            for (int how : new int[] {-1, 5, Integer.MIN_VALUE, Integer.MAX_VALUE}) {
                Twins.refusedAsArgument(made, x -> x.turn(how));
            }
        });
        Sentence.holds(3, "Throws `IllegalStateException` if it would have more than 10 rows", () -> {
            Twins.refusedAsState(() -> Workshop.withChart("11a"), x -> x.turn(4));
            Twins.refusedAsState(() -> Workshop.withChart("12a"), x -> x.turn(4));
            Twins.refusedAsState(() -> Workshop.withChart(TermSentences.GREATEST), x -> x.turn(4));
            for (int how = 0; how < 4; how++) {
                Check.due("turn of eleven columns", Workshop.withChart("11a/11b").turn(how), 2);
                Check.due("turn of twelve columns", Workshop.withChart("12a").turn(how), 1);
            }
            Check.due("turn 4 of ten columns", Workshop.withChart("10a/10b").turn(4), 10);
        });
    }

    // ---- promise 4

    private static void recolour() {
        Sentence.holds(4,
                "Changes all cells of a colour into another colour, and those of the other one into "
                + "the first one.", () -> {
            Workshop x = Workshop.withChart("aab/bcd");
            x.recolour(0, 1);
            Check.dueText("0 and 1", x.cells(), "bba/acd");
            x.recolour(3, 5);
            Check.dueText("3 and 5, which is not there", x.cells(), "bba/acf");
            x.recolour(3, 5);
            Check.dueText("3, which is not there, and 5", x.cells(), "bba/acd");
            Workshop greatest = Workshop.withChart("6a6b/6b6a/12a/12b/12a/12b/12a/12b/12a/12b");
            greatest.recolour(1, 0);
            Check.dueText("all of 120 cells", greatest.cells(),
                    "bbbbbbaaaaaa/aaaaaabbbbbb" + "/bbbbbbbbbbbb/aaaaaaaaaaaa".repeat(4));
        });
        for (String argument : new String[] {"`one`: a colour", "`other`: a colour"}) {
            boolean isOne = argument.startsWith("`one`");
            Sentence.holds(4, argument, () -> {
                for (int colour : new int[] {0, 5}) {
                    Workshop x = Workshop.withChart("abf");
                    Check.due("recolour", isOne ? x.recolour(colour, 1) : x.recolour(1, colour), 2);
                    Check.dueText("chart", x.cells(), colour == 0 ? "baf" : "afb");
                }
                for (int colour : new int[] {-1, 6}) {
                    Twins.refusedAsArgument(() -> Workshop.withChart("abf"),
                            x -> isOne ? x.recolour(colour, 1) : x.recolour(1, colour));
                }
            });
        }
        Sentence.holds(4, "Undoable.", () -> {
            Twins.undoable(3, () -> Workshop.withChart("abc/bcd"), x -> x.recolour(0, 1));
            Twins.undoable(3, () -> Twins.filled(Workshop.withChart("abc/bcd")),
                    x -> x.recolour(0, 1));
            Twins.undoable(0, () -> Workshop.withChart("abc/bcd"), x -> x.recolour(1, 1));
        });
        Sentence.holds(4, "Returns how many cells change their colour.", () -> {
            Supplier<Workshop> made = () -> Workshop.withChart("aab/bcd");
            Check.due("both there", made.get().recolour(0, 1), 4);
            Check.due("only the first there", made.get().recolour(0, 5), 2);
            Check.due("only the other there", made.get().recolour(5, 3), 1);
            Check.due("none there", made.get().recolour(4, 5), 0);
            Check.due("a colour and itself", made.get().recolour(0, 0), 0);
            Check.due("all", Workshop.withChart(TermSentences.GREATEST.replaceAll("[c-f]", "b"))
                    .recolour(0, 1), 120);
            Check.due("a chart that was greater", Workshop.withChart("9a/9a").loaded("ab")
                    .recolour(0, 2), 1);
        });
        Sentence.holds(4, "Throws `IllegalArgumentException` if a colour is out of range", () -> {
            Supplier<Workshop> made = () -> Workshop.withChart("aff");
            Check.due("the least and the greatest", made.get().recolour(0, 5), 3);
            Check.due("the greatest and the least", made.get().recolour(5, 0), 3);
            for (int colour : new int[] {-1, 6, Integer.MIN_VALUE, Integer.MAX_VALUE}) {
                Twins.refusedAsArgument(made, x -> x.recolour(colour, 0));
                Twins.refusedAsArgument(made, x -> x.recolour(5, colour));
                Twins.refusedAsArgument(made, x -> x.recolour(colour, colour));
            }
        });
    }

    // ---- promise 5

    private static void set() {
        int[] least = {3, 0, 5, 0};
        int[] greatest = {15, 11, 240, 5};
        int[] first = {6, 1, 40, 0};
        Sentence.holds(5, "Changes a setting.", () -> {
            for (int i = 0; i < 4; i++) {
                Workshop x = new Workshop();
                for (int value = least[i]; value <= greatest[i]; value++) {
                    x.set(i, value);
                    Check.due("setting " + i, x.setting(i), value);
                }
                for (int other = 0; other < 4; other++) {
                    Check.due("setting " + other, x.setting(other),
                            other == i ? greatest[i] : first[other]);
                }
            }
        });
        Sentence.holds(5, "Undoable.", () -> {
            for (int i = 0; i < 4; i++) {
                int setting = i;
                Twins.undoable(first[i], Workshop::new, x -> x.set(setting, greatest[setting]));
                Twins.undoable(first[i], Workshop::new, x -> x.set(setting, first[setting]));
                Twins.undoable(first[i], () -> Twins.filled(new Workshop()),
                        x -> x.set(setting, least[setting]));
            }
        });
        Sentence.holds(5, "`setting`: 0 to 3", () -> {
            Check.due("setting 0", new Workshop().set(0, 5), 6);
            Check.due("setting 3", new Workshop().set(3, 5), 0);
            Twins.refusedAsIndex(Workshop::new, x -> x.set(-1, 5));
            Twins.refusedAsIndex(Workshop::new, x -> x.set(4, 5));
        });
        Sentence.holds(5, "`value`: the new value", () -> {
            for (int i = 0; i < 4; i++) {
                for (int value : new int[] {least[i], least[i] + 2, greatest[i] - 1, greatest[i]}) {
                    Workshop x = new Workshop();
                    Check.due("set", x.set(i, value), first[i]);
                    Check.due("setting " + i, x.setting(i), value);
                }
            }
        });
        Sentence.holds(5, "Returns the previous value.", () -> {
            for (int i = 0; i < 4; i++) {
                Workshop x = new Workshop();
                Check.due("set to the greatest", x.set(i, greatest[i]), first[i]);
                Check.due("set to the least", x.set(i, least[i]), greatest[i]);
                Check.due("set to the same", x.set(i, least[i]), least[i]);
                Check.due("set to the greatest", x.set(i, greatest[i]), least[i]);
            }
        });
        Sentence.holds(5, "Throws `IndexOutOfBoundsException` if there is no such setting", () -> {
            for (int setting : new int[] {-1, 4, Integer.MIN_VALUE, Integer.MAX_VALUE}) {
                Twins.refusedAsIndex(Workshop::new, x -> x.set(setting, 5));
                Twins.refusedAsIndex(Workshop::new, x -> x.set(setting, -1));
            }
        });
        Sentence.holds(5, "Throws `IllegalArgumentException` if value is out of range", () -> {
            for (int i = 0; i < 4; i++) {
                int setting = i;
                int[] values = {least[i] - 1, greatest[i] + 1, Integer.MIN_VALUE, Integer.MAX_VALUE};
                for (int value : values) {
                    Twins.refusedAsArgument(Workshop::new, x -> x.set(setting, value));
                }
            }
        });
    }
}

/** Promises 1 to 5: a new object, load, turn, recolour, set. */
public final class ChartTest {
    private static final String TWELVE_BY_TEN = "12a/12b/12c/12d/12e/12f/12a/12b/12c/12d";

    public static void main(String[] args) {
        promise1();
        promise2Loads();
        promise2Refuses();
        promise3Turns();
        promise3Refuses();
        promise4();
        promise5();
        Check.finish();
    }

    private static void promise1() {
        Workshop x = new Workshop();
        Check.dueAll("new: count", x::count, 1, 1, 0, 1, 0, 0, 0, 0, 0, 0, 1, 40, 0);
        Check.dueAll("new: setting", x::setting, 6, 1, 40, 0);
        Check.due("new: cell", x.cell(0, 0), 0);
        Check.dueAll("new: strand", what -> x.strand(0, what), 0, 0, -1, 0);
        for (int c = 0; c < 6; c++) {
            int colour = c;
            Check.dueAll("new: colour " + c, what -> x.colour(colour, what), 0, 0, 0, 0,
                    c == 0 ? 1 : 0, 0);
        }
        Check.due("new: firstError", x.firstError(true), 0);
        Check.due("new: clearBuffer", x.clearBuffer(), 0);
        Check.state("new: undo", x, x::undo);
        new Workshop().buy(0, 1);
        Check.due("new: each has a stock of its own", x.count(6), 0);
    }

    private static void promise2Loads() {
        loads("a", 1, "a");
        loads("f", 1, "f");
        loads("2ab/a2b/3c", 3, "aab/abb/ccc");
        loads("abc/def", 2, "abc/def");
        loads("10a2b", 1, "aaaaaaaaaabb");
        loads("a/b/c/d/e/f/a/b/c/d", 10, "a/b/c/d/e/f/a/b/c/d");
        loads("2a9b/9c2d", 2, "aabbbbbbbbb/cccccccccdd");
        Workshop x = Workshop.withChart(TWELVE_BY_TEN);
        Check.due("greatest: rows", x.count(0), 10);
        Check.due("greatest: columns", x.count(1), 12);
        Check.due("greatest: last cell", x.cell(9, 11), 3);
        Check.due("greatest: cell of row 8", x.cell(8, 11), 2);
        loadKeepsBeads();
        Check.undoable("load", x, "ab/cd", x::load);
    }

    private static void loads(String text, long rows, String cells) {
        Workshop x = new Workshop().retype(text);
        Check.due("load " + text, x.load(), rows);
        Check.dueText("cells of " + text, x.cells(), cells);
        Check.due("buffer behind load " + text, x.clearBuffer(), 0);
    }

    private static void loadKeepsBeads() {
        Workshop x = Workshop.richWith("ab", "3ab");
        x.retype("c/d").load();
        Check.dueText("beads behind load", x.beads(), "aaab");
        Check.due("wrong beads behind load", x.count(4), 4);
    }

    private static void promise2Refuses() {
        String[] incomplete = {"", "2", "1", "12", "6", "9", "a/", "/a", "/", "a//b", "g", "1a",
            "0a", "61a", "70a", "02a", "100a", "a2", "ab/2", "A", "a,b", "a b".replace(' ', '!'),
            "13a/", "a/ab/", "a/b/c/d/e/f/a/b/c/d/e/"};
        for (String text : incomplete) {
            Workshop x = Workshop.withChart("bc").retype(text);
            Check.argument("load " + text, x, x::load);
        }
        String[] unfit = {"a/b/c/d/e/f/a/b/c/d/e", "13a", "60a", "12ab", "ab/a", "a/ab", "2a/3a",
            "ab/ab/abc", "12a/13a", "a/a/a/a/a/a/a/a/a/a/aa", "6a7b"};
        for (String text : unfit) {
            Workshop x = Workshop.withChart("bc").retype(text);
            Check.state("load " + text, x, x::load);
            Check.dueText("cells behind load " + text, x.cells(), "bc");
        }
    }

    private static void promise3Turns() {
        String[] due = {"cba/fed", "def/abc", "bca/efd", "def/abc", "ad/be/cf"};
        for (int how = 0; how < 5; how++) {
            Workshop x = Workshop.withChart("abc/def");
            Check.due("turn " + how, x.turn(how), how == 4 ? 3 : 2);
            Check.dueText("cells behind turn " + how, x.cells(), due[how]);
        }
        Workshop x = Workshop.withChart("ab/cd/ef");
        Check.due("turn 1 of three rows", x.turn(1), 3);
        Check.dueText("rows opposite", x.cells(), "ef/cd/ab");
        Check.due("turn 3 of three rows", x.turn(3), 3);
        Check.dueText("first row last", x.cells(), "cd/ab/ef");
        x = Workshop.withChart("10a");
        Check.due("turn 4 of ten columns", x.turn(4), 10);
        Check.due("turn 4 back", x.turn(4), 1);
        for (int how = 0; how < 5; how++) {
            Workshop y = Workshop.withChart("abc/def");
            int turned = how;
            Check.undoable("turn " + how, y, () -> y.turn(turned));
        }
        Workshop one = new Workshop();
        Check.undoable("turn that changes nothing", one, () -> one.turn(4));
    }

    private static void promise3Refuses() {
        Workshop x = Workshop.withChart("11a");
        Check.argument("turn -1", x, () -> x.turn(-1));
        Check.argument("turn 5", x, () -> x.turn(5));
        Check.argument("turn least", x, () -> x.turn(Integer.MIN_VALUE));
        Check.argument("turn greatest", x, () -> x.turn(Integer.MAX_VALUE));
        Check.state("turn 4 of eleven columns", x, () -> x.turn(4));
        Check.due("turn 0 of eleven columns", x.turn(0), 1);
        Workshop y = Workshop.withChart(TWELVE_BY_TEN);
        Check.state("turn 4 of twelve columns", y, () -> y.turn(4));
        Check.due("turn 3 of twelve columns", y.turn(3), 10);
        Check.due("last row", y.cell(9, 11), 0);
    }

    private static void promise4() {
        Workshop x = Workshop.withChart("aab/bcd");
        Check.due("recolour 0 and 1", x.recolour(0, 1), 4);
        Check.dueText("cells", x.cells(), "bba/acd");
        Check.due("recolour 3 into 5", x.recolour(5, 3), 1);
        Check.dueText("cells", x.cells(), "bba/acf");
        Check.due("recolour 2 and 2", x.recolour(2, 2), 0);
        Check.due("recolour 3 and 4, of which is none", x.recolour(3, 4), 0);
        Check.undoable("recolour", x, () -> x.recolour(0, 1));
        Check.undoable("recolour that changes nothing", x, () -> x.recolour(2, 2));
        Check.argument("recolour -1, 0", x, () -> x.recolour(-1, 0));
        Check.argument("recolour 0, -1", x, () -> x.recolour(0, -1));
        Check.argument("recolour 6, 0", x, () -> x.recolour(6, 0));
        Check.argument("recolour 0, 6", x, () -> x.recolour(0, 6));
        Workshop small = Workshop.withChart("3a/3a/3a");
        small.retype("ab").load();
        Check.due("cells that were in a greater chart do not count", small.recolour(0, 2), 1);
    }

    private static void promise5() {
        int[] first = {6, 1, 40, 0};
        int[] least = {3, 0, 5, 0};
        int[] greatest = {15, 11, 240, 5};
        for (int i = 0; i < 4; i++) {
            Workshop x = new Workshop();
            int setting = i;
            Check.due("set " + i + " to the least", x.set(i, least[i]), first[i]);
            Check.due("set " + i + " to the greatest", x.set(i, greatest[i]), least[i]);
            Check.due("setting " + i, x.setting(i), greatest[i]);
            Check.argument("set below", x, () -> x.set(setting, least[setting] - 1));
            Check.argument("set above", x, () -> x.set(setting, greatest[setting] + 1));
            Check.argument("set MIN", x, () -> x.set(setting, Integer.MIN_VALUE));
            Check.argument("set MAX", x, () -> x.set(setting, Integer.MAX_VALUE));
            Check.undoable("set " + i, x, () -> x.set(setting, least[setting]));
            Check.undoable("set to the same", x, () -> x.set(setting, greatest[setting]));
        }
        Workshop x = new Workshop();
        Check.index("set -1", x, () -> x.set(-1, 5));
        Check.index("set 4", x, () -> x.set(4, 5));
        Check.index("set 4 to a wrong value", x, () -> x.set(4, -9));
        Check.index("set MIN", x, () -> x.set(Integer.MIN_VALUE, 5));
    }
}

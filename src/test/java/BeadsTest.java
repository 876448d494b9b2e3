/** Promises 6 to 12: buy, string, stringNext, stringRow, join, crush, unpick. */
public final class BeadsTest {
    public static void main(String[] args) {
        promise6();
        promise7();
        promise7Limits();
        promise8();
        promise9();
        promise9Refuses();
        promise10();
        promise11();
        promise11TakesStringsAway();
        promise12();
        Check.finish();
    }

    private static void promise6() {
        Workshop x = new Workshop();
        Check.due("buy", x.buy(2, 30), 30);
        Check.due("buy more", x.buy(2, 1), 31);
        Check.due("buy another colour", x.buy(5, 100), 100);
        x.string(2, 10);
        Check.due("buy when some are strung", x.buy(2, 4), 25);
        Check.due("bought", x.colour(2, 1), 35);
        Check.undoable("buy", x, () -> x.buy(0, 7));
        Check.argument("buy of colour -1", x, () -> x.buy(-1, 1));
        Check.argument("buy of colour 6", x, () -> x.buy(6, 1));
        Check.argument("buy 0", x, () -> x.buy(0, 0));
        Check.argument("buy 101", x, () -> x.buy(0, 101));
        Check.argument("buy MAX", x, () -> x.buy(0, Integer.MAX_VALUE));
        Check.argument("buy MIN", x, () -> x.buy(0, Integer.MIN_VALUE));
        for (int i = 0; i < 5; i++) {
            x.buy(1, 100);
        }
        Check.due("buy up to 599", x.buy(1, 99), 599);
        Check.state("buy up to 601", x, () -> x.buy(1, 2));
        x.string(1, 20);
        Check.state("buy up to 601 with a smaller stock", x, () -> x.buy(1, 2));
        Check.due("buy up to 600", x.buy(1, 1), 580);
        Check.state("buy 601", x, () -> x.buy(1, 1));
        Check.argument("buy 101 of too many", x, () -> x.buy(1, 101));
    }

    private static void promise7() {
        Workshop x = new Workshop();
        x.buy(3, 5);
        x.buy(1, 100);
        Check.due("string", x.string(3, 4), 4);
        Check.due("string another colour", x.string(1, 2), 6);
        Check.dueText("beads", x.beads(), "ddddbb");
        Check.due("stock of 3", x.colour(3, 0), 1);
        Check.due("stock of 1", x.colour(1, 0), 98);
        Check.state("string more than the stock", x, () -> x.string(3, 2));
        Check.state("string what was never bought", x, () -> x.string(0, 1));
        Check.undoable("string", x, () -> x.string(3, 1));
        Check.due("string the last of the stock", x.string(3, 1), 7);
        Check.argument("string colour -1", x, () -> x.string(-1, 1));
        Check.argument("string colour 6", x, () -> x.string(6, 1));
        Check.argument("string 0", x, () -> x.string(1, 0));
        Check.argument("string 61", x, () -> x.string(1, 61));
        Check.argument("string 61 that are not there", x, () -> x.string(0, 61));
        Check.argument("string MIN", x, () -> x.string(1, Integer.MIN_VALUE));
        Check.argument("string MAX", x, () -> x.string(1, Integer.MAX_VALUE));
    }

    private static void promise7Limits() {
        Workshop x = Workshop.rich();
        Check.state("string 41 on a string for 40", x, () -> x.string(0, 41));
        Check.due("string 40 on a string for 40", x.string(0, 40), 40);
        Check.state("string one more", x, () -> x.string(0, 1));
        x.set(2, 5);
        Check.state("string on one that has more than it could", x, () -> x.string(0, 1));
        x.set(2, 41);
        Check.due("string 41", x.string(1, 1), 41);
        x.set(2, 240);
        x.join();
        Check.due("string 60", x.string(0, 60), 101);
        Check.due("string 60", x.string(0, 60), 161);
        Check.due("string 60", x.string(0, 60), 221);
        Check.state("string 241", x, () -> x.string(1, 20));
        Check.due("string 240", x.string(1, 19), 240);
        Check.state("string 241", x, () -> x.string(1, 1));
        Check.due("knot at 240", x.join(), 1);
        Check.state("string 241 on an empty string", x, () -> x.string(1, 1));
    }

    private static void promise8() {
        Workshop x = Workshop.withChart("ab/cd");
        x.set(0, 3);
        x.buy(0, 10);
        x.buy(1, 10);
        x.buy(2, 3);
        x.buy(3, 10);
        // rounds of 3: row 0 from column 0, row 1 from column 1, row 0 from column 2 (0), ...
        Check.due("stringNext 2", x.stringNext(2), 2);
        Check.due("stringNext 6", x.stringNext(6), 8);
        Check.dueText("beads", x.beads(), "abadcdab");
        Check.due("wrong beads", x.count(4), 0);
        Check.due("stock of 2", x.colour(2, 0), 2);
        Check.undoable("stringNext", x, () -> x.stringNext(1));
        x.string(2, 2);
        x.string(0, 1);
        // next are "d", "aba", "d" and then the "c" of which there is none
        Check.state("stringNext without colour 2", x, () -> x.stringNext(6));
        Check.due("stringNext with the other colours", x.stringNext(5), 16);
        Check.dueText("beads", x.beads(), "abadcdabccadabad");
        Check.argument("stringNext 0", x, () -> x.stringNext(0));
        Check.argument("stringNext 61", x, () -> x.stringNext(61));
        Check.argument("stringNext MIN", x, () -> x.stringNext(Integer.MIN_VALUE));
        Workshop y = Workshop.rich();
        Check.state("stringNext 41 on a string for 40", y, () -> y.stringNext(41));
        Check.due("stringNext 40", y.stringNext(40), 40);
        y.set(2, 240);
        Check.due("stringNext 60", y.stringNext(60), 100);
        Check.due("stringNext 60", y.stringNext(60), 160);
        Check.due("stringNext 60", y.stringNext(60), 220);
        Check.state("stringNext 241", y, () -> y.stringNext(21));
        Check.due("stringNext 240", y.stringNext(20), 240);
        Check.state("stringNext 241", y, () -> y.stringNext(1));
    }

    private static void promise9() {
        Workshop x = Workshop.rich();
        x.retype("2ab10c");
        Check.due("stringRow", x.stringRow(), 13);
        Check.due("buffer behind stringRow", x.clearBuffer(), 0);
        Check.dueText("beads", x.beads(), "aabcccccccccc");
        Check.due("stock of 2", x.colour(2, 0), 590);
        Check.undoable("stringRow", x, "f3e", x::stringRow);
        x.retype("f9e");
        Check.due("stringRow behind others", x.stringRow(), 23);
        Check.dueText("beads", x.beads(), "aabccccccccccfeeeeeeeee");
    }

    private static void promise9Refuses() {
        Workshop x = Workshop.rich();
        for (String text : new String[] {"", "2", "1a", "61a", "a/b", "a/", "ag", "a2", "0b"}) {
            Check.argument("stringRow " + text, x.retype(text), x::stringRow);
        }
        Check.state("stringRow on a string for 40", x.retype("20a21b"), x::stringRow);
        x.retype("20a20b");
        Check.due("stringRow of 40", x.stringRow(), 40);
        x.set(2, 240);
        Check.state("stringRow of 241", x.retype("60a60b60c21d"), x::stringRow);
        Check.state("stringRow of 1200", x.retype("60a".repeat(20)), x::stringRow);
        x.retype("60a60b60c20d");
        Check.due("stringRow of 240", x.stringRow(), 240);
        Workshop y = new Workshop();
        y.buy(0, 3);
        y.buy(1, 3);
        Check.state("stringRow with a of several parts", y.retype("2ab2a"), y::stringRow);
        Check.state("stringRow without c", y.retype("abc"), y::stringRow);
        y.retype("2aba2b");
        Check.due("stringRow of the whole stock", y.stringRow(), 6);
    }

    private static void promise10() {
        Workshop x = Workshop.richWith("ab", "a");
        x.set(0, 4);
        Check.state("join behind an empty string", new Workshop(), new Workshop()::join);
        Check.due("join at 1", x.join(), 0);
        Check.state("join twice", x, x::join);
        x.string(0, 1);
        Check.due("join at 2", x.join(), 1);
        x.string(0, 2);
        Check.due("join at 4: the slant shifts the round", x.join(), 0);
        Check.dueText("begins", x.begins(), "0 1 2 4");
        x.string(0, 1);
        x.set(3, 1);
        Check.due("join at 5, hidden under colour 1", x.join(), 0);
        x.string(0, 1);
        Check.due("join at 6, hidden under colour 1", x.join(), 1);
        x.string(1, 1);
        Check.undoable("join", x, x::join);
        Workshop y = Workshop.rich();
        for (int i = 0; i < 47; i++) {
            y.string(0, 1);
            y.join();
        }
        Check.due("48 strings", y.count(3), 48);
        y.string(0, 1);
        Check.state("join a 49th", y, y::join);
        Workshop z = Workshop.richWith("3aba", "60a60a60a60a");
        z.set(0, 5);
        Check.due("join at 240", z.join(), 0);
        z.undo();
        z.set(1, 0);
        Check.due("join at 240 without a slant", z.join(), 1);
        Check.due("count of strings", z.count(3), 2);
    }

    private static Workshop threeStrings() {
        Workshop x = Workshop.rich();
        x.string(0, 2);
        x.join();
        x.string(1, 1);
        x.join();
        x.string(2, 3);
        return x;
    }

    private static void promise11() {
        Workshop x = threeStrings();
        Check.undoable("crush ahead of strings", x, () -> x.crush(1));
        Check.due("crush 1", x.crush(1), 5);
        Check.dueText("beads", x.beads(), "abccc");
        Check.dueText("begins", x.begins(), "0 1 2");
        Check.due("crush 4, the last one", x.crush(4), 4);
        Check.dueText("beads", x.beads(), "abcc");
        Check.dueText("begins", x.begins(), "0 1 2");
        Check.due("crushed of 0", x.colour(0, 3), 1);
        Check.due("crushed of 2", x.colour(2, 3), 1);
        Check.due("crushed of 1", x.colour(1, 3), 0);
        Check.due("stock of 0", x.colour(0, 0), 598);
        Check.due("crushed", x.count(8), 2);
        Check.due("unpicked", x.count(9), 0);
        Check.undoable("crush", x, () -> x.crush(0));
        Check.index("crush -1", x, () -> x.crush(-1));
        Check.index("crush behind the last", x, () -> x.crush(4));
        Check.index("crush MAX", x, () -> x.crush(Integer.MAX_VALUE));
        Check.index("crush MIN", x, () -> x.crush(Integer.MIN_VALUE));
        Check.index("crush without beads", new Workshop(), () -> new Workshop().crush(0));
    }

    private static void promise11TakesStringsAway() {
        Workshop x = threeStrings();
        Check.due("crush the only bead of string 1", x.crush(2), 5);
        Check.dueText("beads", x.beads(), "aaccc");
        Check.dueText("begins", x.begins(), "0 2");
        Check.due("first of the last string", x.crush(2), 4);
        x.crush(2);
        Check.due("the last bead of the last string", x.crush(2), 2);
        Check.dueText("begins with an empty last string", x.begins(), "0 2");
        Check.due("crush ahead of an empty string", x.crush(0), 1);
        Check.dueText("begins", x.begins(), "0 1");
        Check.due("crush the only bead ahead of an empty string", x.crush(0), 0);
        Check.dueText("begins", x.begins(), "0");
        Workshop y = Workshop.rich();
        y.string(0, 1);
        Check.due("crush the only bead of the only string", y.crush(0), 0);
        Check.dueText("begins", y.begins(), "0");
        y.string(1, 1);
        y.join();
        y.string(2, 2);
        Check.undoable("crush with a string", y, () -> y.crush(0));
        Check.due("crush the only bead of string 0", y.crush(0), 2);
        Check.dueText("begins", y.begins(), "0");
        Check.dueText("beads", y.beads(), "cc");
        Workshop z = Workshop.rich();
        z.string(0, 1);
        z.join();
        z.string(1, 2);
        z.join();
        z.string(2, 1);
        Check.undoable("crush with string 0", z, () -> z.crush(0));
        Check.due("crush with string 0", z.crush(0), 3);
        Check.dueText("begins", z.begins(), "0 2");
    }

    private static void promise12() {
        Workshop x = threeStrings();
        Check.due("unpick 1", x.unpick(1), 5);
        Check.due("stock of 2", x.colour(2, 0), 598);
        Check.due("unpick to the begin of string 2", x.unpick(2), 3);
        Check.dueText("begins", x.begins(), "0 2 3");
        Check.due("unpick string 1", x.unpick(1), 2);
        Check.dueText("begins", x.begins(), "0 2");
        Check.due("unpicked", x.count(9), 4);
        Check.due("crushed", x.count(8), 0);
        Check.due("stock of 1", x.colour(1, 0), 600);
        Check.undoable("unpick", x, () -> x.unpick(1));
        Check.state("unpick more than there are", x, () -> x.unpick(3));
        Check.state("unpick 240", x, () -> x.unpick(240));
        Check.argument("unpick 0", x, () -> x.unpick(0));
        Check.argument("unpick -1", x, () -> x.unpick(-1));
        Check.argument("unpick 241", x, () -> x.unpick(241));
        Check.argument("unpick MIN", x, () -> x.unpick(Integer.MIN_VALUE));
        Check.due("unpick all", x.unpick(2), 0);
        Check.dueText("begins", x.begins(), "0");
        Check.due("stock again", x.count(6), 3600);
        Workshop y = Workshop.richWith("a", "60a60b60c60d");
        Check.due("unpick 240 of 240", y.unpick(240), 0);
        Check.due("stock again", y.count(6), 3600);
        Workshop z = threeStrings();
        Check.due("unpick over two strings", z.unpick(5), 1);
        Check.dueText("begins", z.begins(), "0");
    }
}

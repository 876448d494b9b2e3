/** Promises 17 to 23: cell, pattern, bead, strand, colour, count, setting. */
public final class LookTest {
    public static void main(String[] args) {
        promise17();
        promise18();
        promise18Refuses();
        promise19();
        promise20();
        promise21();
        promise22();
        promise22Room();
        promise23();
        Check.finish();
    }

    private static void promise17() {
        Workshop x = Workshop.withChart("abc/def");
        for (int row = 0; row < 2; row++) {
            for (int column = 0; column < 3; column++) {
                Check.due("cell", x.cell(row, column), 3 * row + column);
            }
        }
        Check.index("cell -1, 0", x, () -> x.cell(-1, 0));
        Check.index("cell 0, -1", x, () -> x.cell(0, -1));
        Check.index("cell 2, 0", x, () -> x.cell(2, 0));
        Check.index("cell 0, 3", x, () -> x.cell(0, 3));
        Check.index("cell MAX", x, () -> x.cell(Integer.MAX_VALUE, 0));
        Check.index("cell MIN", x, () -> x.cell(0, Integer.MIN_VALUE));
    }

    private static void promise18() {
        Workshop x = Workshop.withChart("abcd/bcde/cdef");
        // around 6, slant 1: bead 14 is in round 2, so in row 2, column (2 + 2) modulo 4
        Check.dueAll("pattern 14", what -> x.pattern(14, what), 2, 2, 2, 0);
        Check.dueAll("pattern 0", what -> x.pattern(0, what), 0, 0, 0, 0);
        Check.dueAll("pattern 5", what -> x.pattern(5, what), 1, 0, 0, 1);
        Check.dueAll("pattern 6", what -> x.pattern(6, what), 2, 1, 1, 1);
        // round 39 is in row 0; column (5 + 39) modulo 4
        Check.dueAll("pattern 239", what -> x.pattern(239, what), 0, 39, 0, 0);
        x.set(0, 3);
        x.set(1, 11);
        // round 79 is in row 1; column (2 + 869) modulo 4
        Check.dueAll("pattern 239", what -> x.pattern(239, what), 4, 79, 1, 3);
        x.set(0, 15);
        x.set(1, 0);
        // round 15 is in row 0; column 14 modulo 4
        Check.dueAll("pattern 239", what -> x.pattern(239, what), 2, 15, 0, 2);
    }

    private static void promise18Refuses() {
        Workshop x = new Workshop();
        Check.argument("pattern -1", x, () -> x.pattern(-1, 0));
        Check.argument("pattern 240", x, () -> x.pattern(240, 0));
        Check.argument("pattern of what -1", x, () -> x.pattern(0, -1));
        Check.argument("pattern of what 4", x, () -> x.pattern(0, 4));
        Check.argument("pattern MAX", x, () -> x.pattern(Integer.MAX_VALUE, 0));
        Check.argument("pattern MIN", x, () -> x.pattern(0, Integer.MIN_VALUE));
    }

    /** Strings from 0, 3 and 4, of which the last one is empty; beads "acab" under "ab". */
    private static Workshop small() {
        Workshop x = Workshop.richWith("ab", "aca");
        x.join();
        x.string(1, 1);
        x.join();
        return x;
    }

    private static void promise19() {
        Workshop x = small();
        Check.dueAll("bead 0", what -> x.bead(0, what), 0, 0, 0, 0);
        Check.dueAll("bead 1", what -> x.bead(1, what), 2, 1, 0, 1);
        Check.dueAll("bead 2", what -> x.bead(2, what), 0, 0, 0, 2);
        Check.dueAll("bead 3", what -> x.bead(3, what), 1, 0, 1, 0);
        x.string(4, 1);
        Check.dueAll("bead 4", what -> x.bead(4, what), 4, 1, 2, 0);
        x.recolour(0, 1);
        Check.due("bead 0 is wrong by the chart as it is now", x.bead(0, 1), 1);
        Check.index("bead -1", x, () -> x.bead(-1, 0));
        Check.index("bead 5", x, () -> x.bead(5, 0));
        Check.index("bead 5 of a wrong what", x, () -> x.bead(5, 4));
        Check.index("bead MIN", x, () -> x.bead(Integer.MIN_VALUE, 0));
        Check.argument("bead 0 of what -1", x, () -> x.bead(0, -1));
        Check.argument("bead 0 of what 4", x, () -> x.bead(0, 4));
        Check.argument("bead 0 of what MAX", x, () -> x.bead(0, Integer.MAX_VALUE));
    }

    private static void promise20() {
        Workshop x = small();
        Check.dueAll("strand 0", what -> x.strand(0, what), 0, 3, -1, 1);
        Check.dueAll("strand 1", what -> x.strand(1, what), 3, 1, 0, 0);
        Check.dueAll("strand 2", what -> x.strand(2, what), 4, 0, 1, 0);
        x.set(3, 1);
        Check.due("knot under colour 1", x.strand(1, 2), 1);
        Check.due("knot under colour 1", x.strand(2, 2), 0);
        x.recolour(0, 1);
        Check.due("knot under the chart as it is now", x.strand(1, 2), 0);
        Check.due("wrong beads under the chart as it is now", x.strand(0, 3), 3);
        Check.due("wrong beads of the second string", x.strand(1, 3), 1);
        Check.index("strand -1", x, () -> x.strand(-1, 0));
        Check.index("strand 3", x, () -> x.strand(3, 0));
        Check.index("strand 3 of a wrong what", x, () -> x.strand(3, 4));
        Check.index("strand MAX", x, () -> x.strand(Integer.MAX_VALUE, 0));
        Check.argument("strand 0 of what -1", x, () -> x.strand(0, -1));
        Check.argument("strand 0 of what 4", x, () -> x.strand(0, 4));
        Check.argument("strand 0 of what MIN", x, () -> x.strand(0, Integer.MIN_VALUE));
    }

    private static void promise21() {
        Workshop x = Workshop.withChart("aab/bca");
        x.buy(0, 20);
        x.buy(1, 10);
        x.buy(2, 5);
        x.retype("3a4b2c").stringRow();
        x.crush(0);
        x.crush(7);
        x.unpick(1);
        // beads "aabbbb" under "aabaab"
        Check.dueAll("colour 0", what -> x.colour(0, what), 17, 20, 2, 1, 3, 0);
        Check.dueAll("colour 1", what -> x.colour(1, what), 6, 10, 4, 0, 2, 2);
        Check.dueAll("colour 2", what -> x.colour(2, what), 4, 5, 0, 1, 1, 0);
        Check.dueAll("colour 5", what -> x.colour(5, what), 0, 0, 0, 0, 0, 0);
        Workshop y = Workshop.richWith("ab", "babc2b");
        y.unpick(1);
        y.crush(4);
        Check.due("wrong of 1, the first and not those that are off", y.colour(1, 5), 2);
        Check.due("strung of 1", y.colour(1, 2), 2);
        Check.due("wrong of 2", y.colour(2, 5), 1);
        Check.argument("colour -1", x, () -> x.colour(-1, 0));
        Check.argument("colour 6", x, () -> x.colour(6, 0));
        Check.argument("colour of what -1", x, () -> x.colour(0, -1));
        Check.argument("colour of what 6", x, () -> x.colour(0, 6));
        Check.argument("colour MAX", x, () -> x.colour(Integer.MAX_VALUE, 0));
        Check.argument("colour MIN", x, () -> x.colour(0, Integer.MIN_VALUE));
    }

    private static void promise22() {
        Workshop x = Workshop.withChart("aab/bca");
        x.buy(0, 20);
        x.buy(1, 10);
        x.buy(2, 5);
        x.retype("3a4b").stringRow();
        x.join();
        x.string(2, 2);
        x.join();
        x.string(0, 4);
        x.crush(0);
        x.unpick(3);
        x.crush(1);
        // beads "abbbb", "cc", "a"; the pattern is "aabaab", then "cabcab" (row 1 from column 1)
        Check.dueText("beads", x.beads(), "abbbbcca");
        Check.dueText("begins", x.begins(), "0 5 7");
        Check.dueAll("count", x::count, 2, 3, 8, 3, 4, 1, 25, 35, 2, 3, 3, 39, 6);
        Check.argument("count -1", x, () -> x.count(-1));
        Check.argument("count 13", x, () -> x.count(13));
        Check.argument("count MAX", x, () -> x.count(Integer.MAX_VALUE));
        Check.argument("count MIN", x, () -> x.count(Integer.MIN_VALUE));
    }

    private static void promise22Room() {
        Workshop x = Workshop.rich();
        x.string(0, 40);
        Check.due("room of a full string", x.count(11), 0);
        x.set(2, 39);
        Check.due("room of a string that has more than it could", x.count(11), 0);
        x.set(2, 240);
        Check.due("room", x.count(11), 200);
        x.join();
        Check.due("room of an empty string: the limit of 240 does not matter", x.count(11), 240);
        Check.due("colours in a chart of one cell", x.count(10), 1);
        x.retype("abcdef/6a").load();
        Check.due("colours in a chart of six", x.count(10), 6);
        x.retype("f").load();
        Check.due("colours that were in a greater chart do not count", x.count(10), 1);
    }

    private static void promise23() {
        Workshop x = new Workshop();
        x.set(0, 7);
        x.set(1, 8);
        x.set(2, 9);
        x.set(3, 4);
        Check.dueAll("setting", x::setting, 7, 8, 9, 4);
        Check.index("setting -1", x, () -> x.setting(-1));
        Check.index("setting 4", x, () -> x.setting(4));
        Check.index("setting MAX", x, () -> x.setting(Integer.MAX_VALUE));
        Check.index("setting MIN", x, () -> x.setting(Integer.MIN_VALUE));
    }
}

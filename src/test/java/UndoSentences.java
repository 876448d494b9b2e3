import java.util.LinkedHashMap;
import java.util.Map;
import java.util.function.Supplier;
import java.util.function.ToLongFunction;

/** What the document says of undo, and promise 16. */
final class UndoSentences {
    private UndoSentences() {
    }

    static void hold() {
        String heading = "Undo";
        Sentence.holds(heading,
                "Each method that is marked \"undoable\" and does not throw an exception saves the "
                + "state from before it", UndoSentences::eachMethod);
        Sentence.holds(heading, "(also if it changes nothing)", UndoSentences::changesNothing);
        Sentence.holds(heading, "all, also what is counted so far", UndoSentences::counted);
        Sentence.holds(heading, "but the buffer and the saved states",
                UndoSentences::bufferAndSavedStates);
        Sentence.holds(heading, "At most 6 states are saved", UndoSentences::atMostSix);
        Sentence.holds(heading, "the oldest one is dropped first", UndoSentences::oldestFirst);
        Sentence.holds(16, "Restores the latest saved state, and drops it.",
                UndoSentences::latestFirst);
        Sentence.holds(16, "Returns how many saved states are left.", UndoSentences::left);
        Sentence.holds(16, "Throws `IllegalStateException` if there is none", UndoSentences::none);
    }

    /** The methods that are marked undoable, each with a call that is right in middle(). */
    private static Map<String, ToLongFunction<Workshop>> undoable() {
        Map<String, ToLongFunction<Workshop>> calls = new LinkedHashMap<>();
        calls.put("load", Workshop::load);
        calls.put("turn", x -> x.turn(4));
        calls.put("recolour", x -> x.recolour(0, 1));
        calls.put("set", x -> x.set(0, 9));
        calls.put("buy", x -> x.buy(3, 7));
        calls.put("string", x -> x.string(1, 2));
        calls.put("stringNext", x -> x.stringNext(3));
        calls.put("stringRow", Workshop::stringRow);
        calls.put("join", Workshop::join);
        calls.put("crush", x -> x.crush(1));
        calls.put("unpick", x -> x.unpick(2));
        return calls;
    }

    /** What each of these calls answers in middle(). */
    private static Map<String, Integer> answers() {
        Map<String, Integer> due = new LinkedHashMap<>();
        due.put("load", 1);
        due.put("turn", 2);
        due.put("recolour", 2);
        due.put("set", 6);
        due.put("buy", 7);
        due.put("string", 6);
        due.put("stringNext", 7);
        due.put("stringRow", 6);
        due.put("join", 1);
        due.put("crush", 3);
        due.put("unpick", 2);
        return due;
    }

    /** Four saved states; the chart "ab", the beads "abab", and "2b" in the buffer. */
    private static Workshop middle() {
        Workshop x = Workshop.withChart("ab");
        x.buy(0, 20);
        x.buy(1, 20);
        x.stringNext(4);
        return x.type("2b");
    }

    /** As middle(), with seven more beads of colour 5 bought, one by one: six saved states. */
    private static Workshop middleFilled() {
        Workshop x = middle();
        for (int i = 0; i < 7; i++) {
            x.buy(5, 1);
        }
        return x;
    }

    private static void eachMethod() {
        Map<String, Integer> due = answers();
        undoable().forEach((name, call) -> {
            Workshop x = middle();
            Check.due(name, call.applyAsLong(x), due.get(name));
            Check.due(name + ": saved states", x.count(12), 5);
            Workshop twin = middle().retype(taken(name) ? "" : "2b");
            Check.due(name + ": undo", x.undo(), 4);
            Check.due(name + ": all behind undo", x.digest(), twin.digest());
            Check.dueText(name + ": all behind undo", x.picture(), twin.picture());
            Workshop filled = middleFilled();
            call.applyAsLong(filled);
            Check.due(name + ": saved states of six", filled.count(12), 6);
            filled.undo();
            Check.dueText(name + ": all behind undo", filled.picture(), middleFilled().picture());
        });
    }

    /** Whether the method takes the text out of the buffer. */
    private static boolean taken(String name) {
        return name.equals("load") || name.equals("stringRow");
    }

    private static void changesNothing() {
        Supplier<Workshop> made = UndoSentences::middle;
        Twins.undoable(1, () -> middle().retype("ab"), Workshop::load);
        Twins.undoable(1, made, x -> x.turn(1));
        Twins.undoable(1, made, x -> x.turn(3));
        Twins.undoable(1, Workshop::new, x -> x.turn(0));
        Twins.undoable(1, Workshop::new, x -> x.turn(2));
        Twins.undoable(1, Workshop::new, x -> x.turn(4));
        Twins.undoable(0, made, x -> x.recolour(0, 0));
        Twins.undoable(0, made, x -> x.recolour(4, 5));
        Twins.undoable(6, made, x -> x.set(0, 6));
        Twins.undoable(1, made, x -> x.set(1, 1));
        Twins.undoable(40, made, x -> x.set(2, 40));
        Twins.undoable(0, made, x -> x.set(3, 0));
    }

    private static void counted() {
        Workshop x = Workshop.rich();
        x.string(2, 9);
        x.undo();
        Check.due("stock", x.colour(2, 0), 600);
        x.string(2, 9);
        x.crush(3);
        x.undo();
        Check.due("crushed", x.count(8), 0);
        Check.due("crushed of 2", x.colour(2, 3), 0);
        x.unpick(4);
        Check.due("unpicked", x.count(9), 4);
        x.undo();
        Check.due("unpicked behind undo", x.count(9), 0);
        Check.due("stock behind undo", x.colour(2, 0), 591);
        Workshop strings = Workshop.rich().strung("2a").joined().strung("3b").joined().strung("2c");
        strings.crush(0);
        strings.crush(1);
        strings.unpick(4);
        strings.string(3, 1);
        strings.join();
        Check.dueText("begins", strings.begins(), "0 1 2");
        strings.undo();
        Check.dueText("begins when join is undone", strings.begins(), "0 1");
        strings.undo();
        Check.due("string 1 when string is undone", strings.strand(1, 1), 0);
        strings.undo();
        Check.dueText("begins when unpick is undone", strings.begins(), "0 1 3");
        strings.undo();
        Check.dueText("begins when a crush is undone", strings.begins(), "0 1 4");
        strings.undo();
        Check.dueText("begins as they were", strings.begins(), "0 2 5");
        Check.dueText("beads as they were", strings.beads(), "aabbbcc");
        Workshop y = new Workshop().bought(1, 500);
        y.buy(1, 100);
        y.undo();
        Check.due("bought", y.colour(1, 1), 500);
        Check.due("bought of all colours", y.count(7), 500);
        Check.due("the 600th can be bought again", y.buy(1, 100), 600);
    }

    private static void bufferAndSavedStates() {
        Workshop x = middle();
        x.load();
        x.type("3c");
        x.undo();
        Check.due("what was typed stays", x.firstError(false), 2);
        Check.due("what was typed is still read", x.bought(2, 3).stringRow(), 7);
        x.undo();
        x.undo();
        Check.due("what was taken does not come back", x.clearBuffer(), 0);
        x.buy(4, 5);
        x.undo();
        x.undo();
        Check.due("an undone call is not undone once more", x.colour(0, 2), 0);
        Check.due("saved states", x.count(12), 3);
        Workshop y = new Workshop();
        y.append('a');
        y.clearBuffer();
        y.firstError(true);
        y.digest();
        Check.due("append and clearBuffer save no state", y.count(12), 0);
    }

    private static void atMostSix() {
        Workshop x = new Workshop();
        for (int call = 1; call <= 20; call++) {
            x.buy(0, call);
            Check.due("saved states", x.count(12), Math.min(call, 6));
        }
        for (int left = 5; left >= 0; left--) {
            Check.due("undo", x.undo(), left);
            Check.due("saved states", x.count(12), left);
        }
        Check.due("bought with the first 14 calls", x.count(7), 105);
        Check.state("undo of a seventh", x, x::undo);
    }

    /** Six states are saved, then one more by each method: the first of the six is gone. */
    private static void oldestFirst() {
        undoable().forEach((name, call) -> {
            Workshop x = middleFilled();
            call.applyAsLong(x);
            int[] due = {7, 6, 5, 4, 3, 2};
            for (int i = 0; i < due.length; i++) {
                Check.due(name + ": undo", x.undo(), 5 - i);
                Check.due(name + ": bought of 5", x.colour(5, 1), due[i]);
            }
            Check.state(name + ": undo of a seventh", x, x::undo);
        });
        for (int calls = 6; calls <= 19; calls++) {
            Workshop x = new Workshop();
            for (int i = 0; i < calls; i++) {
                x.buy(0, 1);
            }
            for (int i = 1; i <= 6; i++) {
                x.undo();
                Check.due("behind " + calls + " calls and " + i + " undos", x.count(7), calls - i);
            }
            Check.state("undo of a seventh", x, x::undo);
        }
    }

    private static void latestFirst() {
        Workshop x = new Workshop();
        x.buy(0, 10);
        x.string(0, 3);
        x.set(0, 7);
        x.undo();
        Check.due("around", x.setting(0), 6);
        Check.due("beads", x.count(2), 3);
        x.undo();
        Check.due("beads", x.count(2), 0);
        Check.due("stock", x.count(6), 10);
        x.string(0, 5);
        x.undo();
        Check.due("beads", x.count(2), 0);
        x.undo();
        Check.due("stock", x.count(6), 0);
        // saved and dropped in turns, over more places than there are states
        Workshop y = new Workshop();
        for (int i = 1; i <= 30; i++) {
            y.buy(0, 1);
            y.buy(1, 1);
            y.undo();
            Check.due("bought of 0", y.colour(0, 1), i);
            Check.due("bought of 1", y.colour(1, 1), 0);
        }
        Check.due("saved states", y.count(12), 5);
    }

    private static void left() {
        Workshop x = new Workshop();
        x.buy(0, 1);
        Check.due("undo of one", x.undo(), 0);
        for (int i = 0; i < 9; i++) {
            x.buy(0, 1);
        }
        for (int left = 5; left >= 0; left--) {
            Check.due("undo", x.undo(), left);
        }
    }

    private static void none() {
        Workshop x = new Workshop().type("ab");
        Check.state("undo of a new object", x, x::undo);
        x.buy(0, 1);
        x.undo();
        Check.state("undo of what is undone", x, x::undo);
        Check.due("the buffer stays", x.clearBuffer(), 2);
        Check.thrownBy(() -> x.crush(0));
        Check.state("undo of a call that has thrown", x, x::undo);
        x.buy(0, 2);
        Check.due("undo behind a refused undo", x.undo(), 0);
        Check.due("stock", x.count(6), 0);
    }
}

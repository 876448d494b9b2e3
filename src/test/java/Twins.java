import java.util.List;
import java.util.function.Supplier;
import java.util.function.ToLongFunction;

/**
 * Compares a workshop with its twin, which was made by the same calls but not called so: by the
 * digest, and by what all undos bring back. A call is tried with the saved states as they are, and
 * with six of them, when one more would drop the oldest one.
 */
final class Twins {
    private Twins() {
    }

    static void refusedAsArgument(Supplier<Workshop> made, ToLongFunction<Workshop> call) {
        refused("IllegalArgumentException", made, call);
    }

    static void refusedAsState(Supplier<Workshop> made, ToLongFunction<Workshop> call) {
        refused("IllegalStateException", made, call);
    }

    static void refusedAsIndex(Supplier<Workshop> made, ToLongFunction<Workshop> call) {
        refused("IndexOutOfBoundsException", made, call);
    }

    private static void refused(String exception, Supplier<Workshop> made,
            ToLongFunction<Workshop> call) {
        for (Supplier<Workshop> way : List.of(made, () -> filled(made.get()))) {
            Workshop x = way.get();
            Check.dueText("what is thrown", Check.thrownBy(() -> call.applyAsLong(x)), exception);
            dueSame("refused call", x, way.get());
        }
    }

    /** The call answers this, and changes nothing. */
    static void answered(long due, Supplier<Workshop> made, ToLongFunction<Workshop> call) {
        Workshop x = made.get();
        Check.due("the call", call.applyAsLong(x), due);
        dueSame("call that looks", x, made.get());
    }

    /** The call answers this and saves a state; undo brings all back but the buffer. */
    static void undoable(long due, Supplier<Workshop> made, ToLongFunction<Workshop> call) {
        Workshop x = made.get();
        Workshop twin = made.get();
        int saved = x.count(12);
        Check.due("the call", call.applyAsLong(x), due);
        Check.due("saved states", x.count(12), Math.min(6, saved + 1));
        Check.due("undo", x.undo(), Math.min(5, saved));
        Check.dueText("all behind undo", x.picture(), twin.picture());
        x.retype("7!");
        twin.retype("7!");
        if (saved < 6) {
            dueSame("all behind undo", x, twin);
        }
    }

    /** Saves six states, all of them different, and leaves the rest as it is. */
    static Workshop filled(Workshop x) {
        int slant = x.setting(1);
        for (int i = 1; i < 6; i++) {
            x.set(1, (slant + i) % 12);
        }
        x.set(1, slant);
        return x;
    }

    private static void dueSame(String what, Workshop x, Workshop twin) {
        Check.due(what + ": digest", x.digest(), twin.digest());
        int saved = twin.count(12);
        for (int i = 0; i < saved; i++) {
            Check.dueText(what + ": undo", undone(x), undone(twin));
            Check.due(what + ": digest behind undo", x.digest(), twin.digest());
        }
        Check.dueText(what + ": undo behind the last", undone(x), undone(twin));
    }

    private static String undone(Workshop x) {
        try {
            return "" + x.undo();
        } catch (IllegalStateException e) {
            return "refused";
        }
    }
}

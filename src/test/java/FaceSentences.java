import java.lang.reflect.Method;
import java.lang.reflect.Modifier;
import java.util.Arrays;
import java.util.List;

/** The public face, line by line, and what the interface says ahead of its calls. */
final class FaceSentences {
    private FaceSentences() {
    }

    static void hold() {
        String heading = "The public face";
        Sentence.holds(heading, "public final class BeadSpirals {", FaceSentences::isTheClass);
        Sentence.holds(heading, "public " + Face.CONSTANT + ";", FaceSentences::hasTheConstant);
        Sentence.holds(heading, "public " + Face.CONSTRUCTOR + ";",
                FaceSentences::hasTheConstructor);
        Sentence.holds(1, "`" + Face.CONSTRUCTOR + "`", FaceSentences::hasTheConstructor);
        for (int i = 0; i < Face.METHODS.size(); i++) {
            String method = Face.METHODS.get(i);
            Sentence.holds(heading, "public " + method + ";", () -> hasTheMethod(method));
            Sentence.holds(i + 2, "`" + method + "`", () -> hasTheMethod(method));
        }
        Sentence.holds("Terms", "All numbers are integers;", FaceSentences::integers);
        headings();
    }

    private static void isTheClass() {
        Check.due("the class", BeadSpirals.class.getModifiers(), Modifier.PUBLIC | Modifier.FINAL);
        Check.dueText("its name", BeadSpirals.class.getName(), "BeadSpirals");
    }

    private static void hasTheConstant() {
        Check.due("NONE", BeadSpirals.NONE, -1);
        Check.due("its line in the program",
                Face.program().split("public " + Face.CONSTANT + ";", -1).length, 2);
    }

    private static void hasTheConstructor() {
        Check.due("constructors", BeadSpirals.class.getConstructors().length, 1);
        Check.due("its parameters", BeadSpirals.class.getConstructors()[0].getParameterCount(), 0);
        Check.due("its exceptions",
                BeadSpirals.class.getConstructors()[0].getExceptionTypes().length, 0);
    }

    private static void hasTheMethod(String due) {
        String name = Face.nameOf(due);
        for (Method method : Face.open()) {
            if (method.getName().equals(name)) {
                Check.dueText("the method", Face.described(method), Face.withoutNames(due));
                Check.due(name + ": modifiers", method.getModifiers(), Modifier.PUBLIC);
            }
        }
        Check.due(name + ": its line in the program", Face.program().contains("public " + due + " {")
                ? 1 : 0, 1);
    }

    private static void integers() {
        for (Method method : Face.open()) {
            String name = method.getName();
            String due = name.equals("wrongShare") ? "double" : name.equals("digest") ? "long" : "int";
            Check.dueText("what " + name + " answers", method.getReturnType().getName(), due);
            String parameter = name.equals("firstError") ? "boolean" : "int";
            for (Class<?> type : method.getParameterTypes()) {
                Check.dueText("what " + name + " takes", type.getName(), parameter);
            }
        }
    }

    // ---- what the interface says ahead of its calls

    private static void headings() {
        heading("the chart and settings", "beads and strings", "load", "turn", "recolour", "set");
        heading("beads and strings", "texts",
                "buy", "string", "stringNext", "stringRow", "join", "crush", "unpick");
        heading("texts", "what there is", "append", "clearBuffer", "firstError", "undo");
        heading("what there is", "what would be; nothing is changed",
                "cell", "pattern", "bead", "strand", "colour", "count", "setting");
        heading("what would be; nothing is changed", "parts of the calls above", "needed", "plan",
                "firstWrong", "bestCrush", "bestSlant", "bestTurn", "wrongShare", "digest");
    }

    /** Between these words and the next ones the program has these calls, in this order. */
    private static void heading(String words, String next, String... calls) {
        String sentence = "Ahead of the calls `" + String.join("`, `", calls)
                + "` the interface says: ---- " + words + ".";
        Sentence.holds("Exceptions", sentence, () -> {
            String program = Face.program();
            int begin = program.indexOf("// ---- " + words + " public ");
            int end = program.indexOf("// ---- " + next + " ");
            Check.due("the words stand in the program", begin >= 0 && end > begin ? 1 : 0, 1);
            String part = program.substring(Math.max(0, begin), Math.max(0, end));
            List<String> found = Arrays.stream(part.split("public (int|long|double) ")).skip(1)
                    .map(call -> call.substring(0, call.indexOf('('))).toList();
            Check.dueText("the calls behind \"" + words + "\"", found.toString(),
                    List.of(calls).toString());
        });
    }
}

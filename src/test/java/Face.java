import java.io.IOException;
import java.io.UncheckedIOException;
import java.lang.reflect.Method;
import java.lang.reflect.Modifier;
import java.nio.file.Files;
import java.nio.file.Path;
import java.util.ArrayList;
import java.util.List;

/** The public face in the document's words and order, and what of it the program has. */
final class Face {
    static final String CONSTANT = "static final int NONE = -1";
    static final String CONSTRUCTOR = "BeadSpirals()";
    /** The first one is promise 2, and so on. */
    static final List<String> METHODS = List.of(
            "int load() throws IllegalArgumentException, IllegalStateException",
            "int turn(int how) throws IllegalArgumentException, IllegalStateException",
            "int recolour(int one, int other) throws IllegalArgumentException",
            "int set(int setting, int value) throws IndexOutOfBoundsException, "
                    + "IllegalArgumentException",
            "int buy(int colour, int many) throws IllegalArgumentException, IllegalStateException",
            "int string(int colour, int many) throws IllegalArgumentException, "
                    + "IllegalStateException",
            "int stringNext(int many) throws IllegalArgumentException, IllegalStateException",
            "int stringRow() throws IllegalArgumentException, IllegalStateException",
            "int join() throws IllegalStateException",
            "int crush(int bead) throws IndexOutOfBoundsException",
            "int unpick(int many) throws IllegalArgumentException, IllegalStateException",
            "int append(int code) throws IllegalArgumentException, IllegalStateException",
            "int clearBuffer()",
            "int firstError(boolean isChart)",
            "int undo() throws IllegalStateException",
            "int cell(int row, int column) throws IndexOutOfBoundsException",
            "int pattern(int bead, int what) throws IllegalArgumentException",
            "int bead(int bead, int what) throws IndexOutOfBoundsException, "
                    + "IllegalArgumentException",
            "int strand(int strand, int what) throws IndexOutOfBoundsException, "
                    + "IllegalArgumentException",
            "int colour(int colour, int what) throws IllegalArgumentException",
            "int count(int what) throws IllegalArgumentException",
            "int setting(int setting) throws IndexOutOfBoundsException",
            "int needed(int colour, int total) throws IllegalArgumentException",
            "int plan(int total, int strand) throws IllegalArgumentException",
            "int firstWrong()",
            "int bestCrush()",
            "int bestSlant()",
            "int bestTurn()",
            "double wrongShare()",
            "long digest()");

    private static final Path PROGRAM = Path.of("src", "main", "java", "BeadSpirals.java");

    private Face() {
    }

    /** The program's text, with one blank for each row of blanks and line ends. */
    static String program() {
        try {
            return Files.readString(PROGRAM).replaceAll("\\s+", " ");
        } catch (IOException e) {
            throw new UncheckedIOException(e);
        }
    }

    static String nameOf(String method) {
        return method.substring(method.indexOf(' ') + 1, method.indexOf('('));
    }

    /** A method of the document as described() writes it: no names of parameters. */
    static String withoutNames(String method) {
        return method.replaceAll("(int|boolean) \\w+(?=[,)])", "$1");
    }

    static String described(Method method) {
        List<String> parameters = new ArrayList<>();
        for (Class<?> parameter : method.getParameterTypes()) {
            parameters.add(parameter.getName());
        }
        List<String> exceptions = new ArrayList<>();
        for (Class<?> exception : method.getExceptionTypes()) {
            exceptions.add(exception.getSimpleName());
        }
        return method.getReturnType().getName() + " " + method.getName()
                + "(" + String.join(", ", parameters) + ")"
                + (exceptions.isEmpty() ? "" : " throws " + String.join(", ", exceptions));
    }

    /** The methods of the program that are not private. */
    static List<Method> open() {
        List<Method> open = new ArrayList<>();
        for (Method method : BeadSpirals.class.getDeclaredMethods()) {
            if (!Modifier.isPrivate(method.getModifiers())) {
                open.add(method);
            }
        }
        return open;
    }
}

import java.lang.reflect.Constructor;
import java.lang.reflect.Field;
import java.lang.reflect.Method;
import java.lang.reflect.Modifier;
import java.util.ArrayList;
import java.util.HashSet;
import java.util.List;
import java.util.Set;
import java.util.TreeSet;

/** The public face of the document, whole and nothing beside it, with its throws clauses. */
public final class FaceTest {
    private static final String[] METHODS = {
        "int load() IllegalArgumentException IllegalStateException",
        "int turn(int) IllegalArgumentException IllegalStateException",
        "int recolour(int int) IllegalArgumentException",
        "int set(int int) IndexOutOfBoundsException IllegalArgumentException",
        "int buy(int int) IllegalArgumentException IllegalStateException",
        "int string(int int) IllegalArgumentException IllegalStateException",
        "int stringNext(int) IllegalArgumentException IllegalStateException",
        "int stringRow() IllegalArgumentException IllegalStateException",
        "int join() IllegalStateException",
        "int crush(int) IndexOutOfBoundsException",
        "int unpick(int) IllegalArgumentException IllegalStateException",
        "int append(int) IllegalArgumentException IllegalStateException",
        "int clearBuffer()",
        "int firstError(boolean)",
        "int undo() IllegalStateException",
        "int cell(int int) IndexOutOfBoundsException",
        "int pattern(int int) IllegalArgumentException",
        "int bead(int int) IndexOutOfBoundsException IllegalArgumentException",
        "int strand(int int) IndexOutOfBoundsException IllegalArgumentException",
        "int colour(int int) IllegalArgumentException",
        "int count(int) IllegalArgumentException",
        "int setting(int) IndexOutOfBoundsException",
        "int needed(int int) IllegalArgumentException",
        "int plan(int int) IllegalArgumentException",
        "int firstWrong()",
        "int bestCrush()",
        "int bestSlant()",
        "int bestTurn()",
        "double wrongShare()",
        "long digest()",
    };

    public static void main(String[] args) {
        Check.due("NONE", BeadSpirals.NONE, -1);
        int modifiers = BeadSpirals.class.getModifiers();
        Check.due("the class", modifiers, Modifier.PUBLIC | Modifier.FINAL);
        methods();
        membersBeside();
        Check.finish();
    }

    private static void methods() {
        Set<String> due = new TreeSet<>(List.of(METHODS));
        Set<String> names = new HashSet<>();
        List<Method> hidden = new ArrayList<>();
        Set<String> got = new TreeSet<>();
        for (Method method : BeadSpirals.class.getDeclaredMethods()) {
            if (Modifier.isPrivate(method.getModifiers())) {
                hidden.add(method);
            } else {
                got.add(described(method));
                names.add(method.getName());
            }
        }
        Check.dueText("the methods", got.toString(), due.toString());
        for (Class<?> inner : BeadSpirals.class.getDeclaredClasses()) {
            for (Method method : inner.getDeclaredMethods()) {
                if (Modifier.isPrivate(method.getModifiers())) {
                    hidden.add(method);
                }
            }
        }
        for (Method method : hidden) {
            Check.due(method.getName() + " has a name of its own",
                    names.contains(method.getName()) ? 1 : 0, 0);
        }
    }

    private static String described(Method method) {
        List<String> parameters = new ArrayList<>();
        for (Class<?> parameter : method.getParameterTypes()) {
            parameters.add(parameter.getName());
        }
        StringBuilder text = new StringBuilder();
        text.append(method.getReturnType().getName()).append(' ').append(method.getName());
        text.append('(').append(String.join(" ", parameters)).append(')');
        for (Class<?> thrown : method.getExceptionTypes()) {
            text.append(' ').append(thrown.getSimpleName());
        }
        return text.toString();
    }

    private static void membersBeside() {
        for (Field field : BeadSpirals.class.getDeclaredFields()) {
            int modifiers = field.getModifiers();
            boolean right = field.getName().equals("NONE")
                    ? modifiers == (Modifier.PUBLIC | Modifier.STATIC | Modifier.FINAL)
                    : Modifier.isPrivate(modifiers);
            Check.due(field.getName() + " is as it must be", right ? 1 : 0, 1);
        }
        Constructor<?>[] constructors = BeadSpirals.class.getDeclaredConstructors();
        Check.due("constructors", constructors.length, 1);
        Check.due("the constructor", constructors[0].getModifiers(), Modifier.PUBLIC);
        Check.due("its parameters", constructors[0].getParameterCount(), 0);
    }
}

import java.lang.reflect.Constructor;
import java.lang.reflect.Field;
import java.lang.reflect.Method;
import java.lang.reflect.Modifier;
import java.util.Set;
import java.util.TreeSet;

/** The public face of the document is there whole, with its throws clauses, and nothing beside it. */
public final class FaceTest {
    public static void main(String[] args) {
        Check.due("the class", BeadSpirals.class.getModifiers(), Modifier.PUBLIC | Modifier.FINAL);
        noMoreMethods();
        noMoreFields();
        noMoreConstructors();
        insideClasses();
        Check.finish();
    }

    private static void noMoreMethods() {
        Set<String> due = new TreeSet<>();
        Face.METHODS.forEach(method -> due.add(Face.withoutNames(method)));
        Set<String> got = new TreeSet<>();
        Face.open().forEach(method -> got.add(Face.described(method)));
        Check.dueText("the methods", got.toString(), due.toString());
        Check.due("methods", Face.open().size(), Face.METHODS.size());
    }

    private static void noMoreFields() {
        for (Field field : BeadSpirals.class.getDeclaredFields()) {
            int modifiers = field.getModifiers();
            boolean right = field.getName().equals("NONE")
                    ? modifiers == (Modifier.PUBLIC | Modifier.STATIC | Modifier.FINAL)
                    : Modifier.isPrivate(modifiers);
            Check.due(field.getName() + " is as it must be", right ? 1 : 0, 1);
        }
    }

    private static void noMoreConstructors() {
        Constructor<?>[] constructors = BeadSpirals.class.getDeclaredConstructors();
        Check.due("constructors", constructors.length, 1);
        Check.due("the constructor", constructors[0].getModifiers(), Modifier.PUBLIC);
        Check.due("its parameters", constructors[0].getParameterCount(), 0);
    }

    /** LANGUAGE.md, rule 1: static and not public, and no private method with a public one's name. */
    private static void insideClasses() {
        hasNamesOfItsOwn(BeadSpirals.class);
        for (Class<?> inside : BeadSpirals.class.getDeclaredClasses()) {
            int modifiers = inside.getModifiers();
            Check.due(inside.getName() + " is static", modifiers & Modifier.STATIC, Modifier.STATIC);
            Check.due(inside.getName() + " is not open",
                    modifiers & (Modifier.PUBLIC | Modifier.PROTECTED), 0);
            hasNamesOfItsOwn(inside);
        }
    }

    private static void hasNamesOfItsOwn(Class<?> one) {
        Set<String> names = new TreeSet<>();
        Face.METHODS.forEach(method -> names.add(Face.nameOf(method)));
        for (Method method : one.getDeclaredMethods()) {
            if (Modifier.isPrivate(method.getModifiers())) {
                Check.due(method.getName() + " has a name of its own",
                        names.contains(method.getName()) ? 1 : 0, 0);
            }
        }
    }
}

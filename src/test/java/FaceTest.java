import java.lang.reflect.Constructor;
import java.lang.reflect.Field;
import java.lang.reflect.Method;
import java.lang.reflect.Modifier;
import java.util.Set;
import java.util.TreeSet;

/** The public face: what the document lists, and nothing else that is not private. */
public final class FaceTest {
    private static final Class<?> TYPE = PhaseCounts.class;
    private static final Set<String> FACE = Set.of(
        "boolean begin(int)", "boolean join(int, int)", "boolean change(int, int)", "boolean turn(int, int)",
        "int parity(int)", "int phase(int)", "int function(int)", "int least(int)", "int settle()",
        "int linear(int)", "int network(int)", "int total(int)");

    public static void main(String[] args) {
        Due due = new Due();
        theClass(due);
        theConstant(due);
        theConstructor(due);
        theMethods(due);
        due.end();
    }

    // "public final class PhaseCounts": it extends and implements nothing.
    private static void theClass(Due due) {
        due.same("the class", Modifier.toString(TYPE.getModifiers()) + " " + TYPE.getName(), "public final PhaseCounts");
        due.isTrue("the class extends nothing", TYPE.getSuperclass() == Object.class);
        due.is("interfaces of the class", TYPE.getInterfaces().length, 0);
        for (Class<?> inside : TYPE.getDeclaredClasses()) {
            int modifiers = inside.getModifiers();
            due.isTrue(inside + " is seen by no one else", !Modifier.isPublic(modifiers) && !Modifier.isProtected(modifiers));
        }
    }

    // "public static final int NONE = -1;"
    private static void theConstant(Due due) {
        Set<String> found = new TreeSet<>();
        for (Field field : TYPE.getDeclaredFields()) {
            if (Modifier.isPrivate(field.getModifiers())) continue;
            found.add(Modifier.toString(field.getModifiers()) + " " + field.getType() + " " + field.getName());
        }
        due.same("the constants", found.toString(), "[public static final int NONE]");
        due.is("NONE", PhaseCounts.NONE, -1);
    }

    // "public PhaseCounts();"
    private static void theConstructor(Due due) {
        due.is("constructors", TYPE.getDeclaredConstructors().length, 1);
        for (Constructor<?> constructor : TYPE.getDeclaredConstructors()) {
            due.same("the constructor", constructor.toString(), "public PhaseCounts()");
        }
    }

    private static void theMethods(Due due) {
        Set<String> found = new TreeSet<>();
        for (Method method : TYPE.getDeclaredMethods()) {
            if (Modifier.isPrivate(method.getModifiers())) continue;
            due.same(method.getName(), Modifier.toString(method.getModifiers()), "public");
            due.is(method + ": exceptions", method.getExceptionTypes().length, 0);
            found.add(text(method));
        }
        due.same("the methods", found.toString(), new TreeSet<>(FACE).toString());
    }

    private static String text(Method method) {
        StringBuilder text = new StringBuilder();
        for (Class<?> parameter : method.getParameterTypes()) {
            text.append(text.length() == 0 ? "" : ", ").append(parameter);
        }
        return method.getReturnType() + " " + method.getName() + "(" + text + ")";
    }
}

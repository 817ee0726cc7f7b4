import java.lang.reflect.Constructor;
import java.lang.reflect.Field;
import java.lang.reflect.Method;
import java.lang.reflect.Modifier;
import java.util.Set;
import java.util.TreeSet;

/** The public face: what the document lists, and nothing else that is not private. */
public final class FaceTest {
    private static final Set<String> FACE = Set.of(
        "boolean begin(int)", "boolean join(int, int)", "boolean change(int, int)", "boolean turn(int, int)",
        "int parity(int)", "int phase(int)", "int function(int)", "int least(int)", "int settle()",
        "int linear(int)", "int network(int)", "int total(int)");

    public static void main(String[] args) {
        Due due = new Due();
        Class<?> type = PhaseCounts.class;
        due.isTrue("the class is public and final", Modifier.isPublic(type.getModifiers()) && Modifier.isFinal(type.getModifiers()));
        Set<String> found = new TreeSet<>();
        for (Method method : type.getDeclaredMethods()) {
            if (Modifier.isPrivate(method.getModifiers())) continue;
            due.isTrue(method + " is public and not static", Modifier.isPublic(method.getModifiers()) && !Modifier.isStatic(method.getModifiers()));
            found.add(text(method));
        }
        due.same("the methods", found.toString(), new TreeSet<>(FACE).toString());
        for (Field field : type.getDeclaredFields()) {
            due.isTrue(field + " is private, or NONE", Modifier.isPrivate(field.getModifiers()) || field.getName().equals("NONE"));
        }
        for (Constructor<?> constructor : type.getDeclaredConstructors()) {
            due.is(constructor + ": parameters", constructor.getParameterCount(), 0);
        }
        due.end();
    }

    private static String text(Method method) {
        StringBuilder text = new StringBuilder();
        for (Class<?> parameter : method.getParameterTypes()) {
            text.append(text.length() == 0 ? "" : ", ").append(parameter);
        }
        return method.getReturnType() + " " + method.getName() + "(" + text + ")";
    }
}

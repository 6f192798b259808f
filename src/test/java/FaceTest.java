import java.lang.reflect.Constructor;
import java.lang.reflect.Field;
import java.lang.reflect.Method;
import java.lang.reflect.Modifier;
import java.util.Set;
import java.util.TreeSet;

/** The public face: just the members of the document, with the exceptions that it names. */
public final class FaceTest {
    private static final String[] FACE = {
        "int addAntenna(int, int, int) throws IllegalArgumentException, IllegalStateException",
        "int addOutage(int, int, int) throws IndexOutOfBoundsException, IllegalArgumentException, IllegalStateException",
        "int addPass(int, int, int, int) throws IndexOutOfBoundsException, IllegalArgumentException, "
            + "IllegalStateException",
        "int addSatellite(int, int, int, int) throws IllegalArgumentException, IllegalStateException",
        "int antenna(int, int) throws IndexOutOfBoundsException",
        "int best()",
        "boolean canTake(int) throws IndexOutOfBoundsException",
        "int count(int) throws IndexOutOfBoundsException",
        "long digest()",
        "int giveUp(int) throws IndexOutOfBoundsException, IllegalStateException",
        "int handovers(int) throws IndexOutOfBoundsException",
        "boolean isConflict(int, int) throws IndexOutOfBoundsException, IllegalArgumentException",
        "int now()",
        "int pass(int, int) throws IndexOutOfBoundsException",
        "int run(int) throws IllegalArgumentException, IllegalStateException",
        "int satellite(int, int) throws IndexOutOfBoundsException",
        "int setHandover(int) throws IllegalArgumentException",
        "double share()",
        "int take(int) throws IllegalArgumentException, IllegalStateException",
        "int taken()",
        "int weight(int) throws IllegalArgumentException",
    };

    public static void main(String[] args) {
        Check.same("the class is public and final",
                PassDesk.class.getModifiers() == (Modifier.PUBLIC | Modifier.FINAL), true);
        methodsAreTheFace();
        theRestIsPrivate();
        Check.end();
    }

    private static void methodsAreTheFace() {
        Set<String> got = new TreeSet<>();
        Set<String> names = new TreeSet<>();
        for (Method method : PassDesk.class.getDeclaredMethods()) {
            if (Modifier.isPublic(method.getModifiers())) {
                got.add(tell(method));
                names.add(method.getName());
            }
        }
        Check.same("the face", String.join("\n", got), String.join("\n", new TreeSet<>(Set.of(FACE))));
        for (Method method : PassDesk.class.getDeclaredMethods()) {
            if (!Modifier.isPublic(method.getModifiers())) {
                Check.same("private: " + method, Modifier.isPrivate(method.getModifiers()), true);
                Check.same("the name of a public one: " + method, names.contains(method.getName()), false);
            }
        }
    }

    private static void theRestIsPrivate() {
        for (Constructor<?> made : PassDesk.class.getDeclaredConstructors()) {
            Check.same("public PassDesk()", Modifier.isPublic(made.getModifiers()), true);
            Check.same("no parameters", made.getParameterCount(), 0);
        }
        for (Field field : PassDesk.class.getDeclaredFields()) {
            Check.same("private: " + field, Modifier.isPrivate(field.getModifiers()), true);
        }
        for (Class<?> inside : PassDesk.class.getDeclaredClasses()) {
            Check.same("private and static: " + inside, Modifier.isPrivate(inside.getModifiers())
                    && Modifier.isStatic(inside.getModifiers()), true);
        }
    }

    private static String tell(Method method) {
        StringBuilder text = new StringBuilder();
        text.append(method.getReturnType().getSimpleName()).append(' ').append(method.getName());
        text.append('(').append(tell(method.getParameterTypes())).append(')');
        if (method.getExceptionTypes().length > 0) {
            text.append(" throws ").append(tell(method.getExceptionTypes()));
        }
        return text.toString();
    }

    private static String tell(Class<?>[] types) {
        StringBuilder text = new StringBuilder();
        for (Class<?> type : types) {
            text.append(text.length() == 0 ? "" : ", ").append(type.getSimpleName());
        }
        return text.toString();
    }
}

import java.lang.reflect.Constructor;
import java.lang.reflect.Field;
import java.lang.reflect.Method;
import java.lang.reflect.Modifier;
import java.util.Set;
import java.util.TreeSet;

/** The public face: just what the document lists, and nothing else that is not private. */
public final class FaceTest {
    public static void main(String[] args) {
        Set<String> face = new TreeSet<>(Set.of(
            "int tick(int, int, int)", "int run(int)", "int read(int)", "boolean write(int, int)",
            "int state()", "int instruction()", "int register(int)", "int word(int)", "int pc()",
            "int steps()"));
        Set<String> found = new TreeSet<>();
        for (Method m : ProbeBench.class.getDeclaredMethods()) {
            if (!Modifier.isPrivate(m.getModifiers()) && !m.isSynthetic()) {
                Bench.due(m + " is public", Modifier.isPublic(m.getModifiers()), true);
                Bench.due(m + " is static", Modifier.isStatic(m.getModifiers()), false);
                found.add(text(m));
            }
        }
        Bench.due("the methods are " + found, found.equals(face), true);
        Constructor<?>[] made = ProbeBench.class.getDeclaredConstructors();
        Bench.due("constructors", made.length, 1);
        Bench.due("its parameters", made[0].getParameterCount(), 0);
        Bench.due("it is public", Modifier.isPublic(made[0].getModifiers()), true);
        for (Field f : ProbeBench.class.getDeclaredFields()) {
            Bench.due(f + " is private", Modifier.isPrivate(f.getModifiers()), true);
        }
        int modifiers = ProbeBench.class.getModifiers();
        Bench.due("public and final",
            Modifier.isPublic(modifiers) && Modifier.isFinal(modifiers), true);
        Bench.end();
    }

    private static String text(Method m) {
        StringBuilder parameters = new StringBuilder();
        for (Class<?> c : m.getParameterTypes()) {
            parameters.append(parameters.length() == 0 ? "" : ", ").append(c.getName());
        }
        return m.getReturnType().getName() + " " + m.getName() + "(" + parameters + ")";
    }
}

import java.io.IOException;
import java.lang.reflect.Constructor;
import java.lang.reflect.Field;
import java.lang.reflect.Method;
import java.lang.reflect.Modifier;
import java.nio.file.Files;
import java.nio.file.Path;
import java.util.List;
import java.util.Set;
import java.util.TreeSet;
import java.util.stream.Stream;

/** The public face: just what the document lists, and nothing else that is not private. */
public final class FaceTest {
    private static final Set<String> FACE = new TreeSet<>(Set.of(
        "int tick(int, int, int)", "int run(int)", "int read(int)", "boolean write(int, int)",
        "int state()", "int instruction()", "int register(int)", "int word(int)", "int pc()",
        "int steps()"));

    public static void main(String[] args) throws IOException {
        theClass();
        constructors();
        methods();
        fields();
        classesInside();
        namesOfPrivateMethods();
        oneFile();
        Bench.end();
    }

    private static void theClass() {
        Bench.about("public final class ProbeBench");
        int modifiers = ProbeBench.class.getModifiers();
        Bench.due("public", Modifier.isPublic(modifiers), true);
        Bench.due("final", Modifier.isFinal(modifiers), true);
        Bench.due("abstract", Modifier.isAbstract(modifiers), false);
        Bench.due("in no package", ProbeBench.class.getPackageName().isEmpty(), true);
        Bench.due("no class above it", ProbeBench.class.getSuperclass() == Object.class, true);
        Bench.due("interfaces", ProbeBench.class.getInterfaces().length, 0);
    }

    private static void constructors() {
        Bench.about("public ProbeBench();");
        Constructor<?>[] made = ProbeBench.class.getDeclaredConstructors();
        Bench.due("constructors", made.length, 1);
        Bench.due("its parameters", made[0].getParameterCount(), 0);
        Bench.due("it is public", Modifier.isPublic(made[0].getModifiers()), true);
        Bench.due("its exceptions", made[0].getExceptionTypes().length, 0);
    }

    private static void methods() {
        Bench.about("that face and no other public, protected or package-visible member");
        Set<String> found = new TreeSet<>();
        for (Method m : ProbeBench.class.getDeclaredMethods()) {
            if (!Modifier.isPrivate(m.getModifiers()) && !m.isSynthetic()) {
                Bench.due(m + " is public", Modifier.isPublic(m.getModifiers()), true);
                Bench.due(m + " is static", Modifier.isStatic(m.getModifiers()), false);
                Bench.due(m + ", exceptions", m.getExceptionTypes().length, 0);
                found.add(text(m));
            }
        }
        Bench.due("the methods are " + found, found.equals(FACE), true);
    }

    private static String text(Method m) {
        StringBuilder parameters = new StringBuilder();
        for (Class<?> c : m.getParameterTypes()) {
            parameters.append(parameters.length() == 0 ? "" : ", ").append(c.getName());
        }
        return m.getReturnType().getName() + " " + m.getName() + "(" + parameters + ")";
    }

    private static void fields() {
        Bench.about("that face and no other public, protected or package-visible member");
        for (Field f : ProbeBench.class.getDeclaredFields()) {
            Bench.due(f + " is private", Modifier.isPrivate(f.getModifiers()), true);
        }
        Bench.about("Static fields are final");
        finalIfStatic(ProbeBench.class);
        for (Class<?> c : ProbeBench.class.getDeclaredClasses()) {
            finalIfStatic(c);
        }
    }

    private static void finalIfStatic(Class<?> c) {
        for (Field f : c.getDeclaredFields()) {
            if (Modifier.isStatic(f.getModifiers())) {
                Bench.due(f + " is final", Modifier.isFinal(f.getModifiers()), true);
            }
        }
    }

    private static void classesInside() {
        Bench.about("the classes inside it, which are private or package-visible and static");
        for (Class<?> c : ProbeBench.class.getDeclaredClasses()) {
            int modifiers = c.getModifiers();
            Bench.due(c + " is public", Modifier.isPublic(modifiers), false);
            Bench.due(c + " is protected", Modifier.isProtected(modifiers), false);
            Bench.due(c + " is static", Modifier.isStatic(modifiers), true);
        }
    }

    private static void namesOfPrivateMethods() {
        Bench.about("No private method bears the name of a public one.");
        Set<String> names = new TreeSet<>();
        for (String method : FACE) {
            names.add(method.substring(method.indexOf(' ') + 1, method.indexOf('(')));
        }
        privateMethodsBeside(ProbeBench.class, names);
        for (Class<?> c : ProbeBench.class.getDeclaredClasses()) {
            privateMethodsBeside(c, names);
        }
    }

    private static void privateMethodsBeside(Class<?> c, Set<String> names) {
        for (Method m : c.getDeclaredMethods()) {
            if (Modifier.isPrivate(m.getModifiers())) {
                Bench.due(m + " has such a name", names.contains(m.getName()), false);
            }
        }
    }

    private static void oneFile() throws IOException {
        Bench.about("The program is one file, src/main/java/ProbeBench.java, without a package line");
        Path program = Path.of("src/main/java/ProbeBench.java");
        try (Stream<Path> files = Files.walk(Path.of("src/main"))) {
            List<Path> found = files.filter(Files::isRegularFile).toList();
            Bench.due("the files are " + found, found.equals(List.of(program)), true);
        }
        for (String line : Files.readAllLines(program)) {
            Bench.due(line, line.startsWith("package "), false);
        }
    }
}

import java.io.IOException;
import java.lang.reflect.Method;
import java.lang.reflect.Modifier;
import java.nio.file.Files;
import java.nio.file.Path;
import java.util.ArrayList;
import java.util.List;
import java.util.Set;
import java.util.TreeSet;
import java.util.regex.Matcher;
import java.util.regex.Pattern;
import java.util.stream.Stream;

/** README.md: its example compiles and answers as it says, and its tables say what there is. */
public final class ReadmeTest {
    private static final Pattern PRINTED = Pattern.compile("println\\((.*)\\); *// ([^:]+)(:.*)?");
    private static final Pattern CALL_ROW =
        Pattern.compile("\\| `(\\w+)\\((.*?)\\)` \\| .* \\| (.*) \\|");
    private static final Pattern LIMITS =
        Pattern.compile("(-1|false) if `(\\w+)` is not (\\d+) \\.\\. (\\d+)");

    private static List<String> readme;

    public static void main(String[] args) throws IOException, InterruptedException {
        readme = Files.readAllLines(Path.of("README.md"));
        example();
        callsOfTheExample();
        tableOfCalls();
        tests();
        theRest();
        Bench.end();
    }

    /** The only block of Java in README.md. */
    private static List<String> block() {
        int from = readme.indexOf("```java") + 1;
        int to = from + readme.subList(from, readme.size()).indexOf("```");
        Bench.due("blocks of Java", readme.stream().filter("```java"::equals).count(), 1);
        return readme.subList(from, to);
    }

    private static void example() throws IOException, InterruptedException {
        Bench.about("the example compiles against the class and answers as README.md says");
        Path folder = Files.createTempDirectory("readme");
        Path source = folder.resolve("Example.java");
        Path printed = folder.resolve("printed");
        Files.write(source, block());
        String classes = System.getProperty("java.class.path");
        Bench.due("exit code of javac", exitCode(printed, "javac", "--release", "17", "-Xlint:all",
            "-Werror", "-cp", classes, "-d", folder.toString(), source.toString()), 0);
        Bench.due("exit code of java", exitCode(printed, "java",
            "-cp", classes + System.getProperty("path.separator") + folder, "Example"), 0);
        compare(Files.readAllLines(printed));
        remove(folder);
    }

    private static int exitCode(Path printed, String... command)
            throws IOException, InterruptedException {
        ProcessBuilder builder = new ProcessBuilder(command);
        builder.redirectErrorStream(true).redirectOutput(printed.toFile());
        int code = builder.start().waitFor();
        if (code != 0) {
            Files.readAllLines(printed).forEach(System.out::println);
        }
        return code;
    }

    private static void compare(List<String> printed) {
        List<String> calls = new ArrayList<>();
        List<String> answers = new ArrayList<>();
        for (String line : block()) {
            Matcher m = PRINTED.matcher(line);
            boolean found = m.find();
            Bench.due("an answer stands beside" + line, found, line.contains("println"));
            if (found) {
                calls.add(m.group(1));
                answers.add(m.group(2).strip());
            }
        }
        Bench.due("lines that were printed", printed.size(), answers.size());
        for (int i = 0; i < Math.min(printed.size(), answers.size()); i++) {
            String got = printed.get(i);
            Bench.due(calls.get(i) + ": README.md says " + answers.get(i) + ", printed was " + got
                + "; the same", got.equals(answers.get(i)), true);
        }
    }

    private static void remove(Path folder) throws IOException {
        try (Stream<Path> files = Files.list(folder)) {
            for (Path file : files.toList()) {
                Files.delete(file);
            }
        }
        Files.delete(folder);
    }

    private static Set<String> face() {
        Set<String> names = new TreeSet<>();
        for (Method m : ProbeBench.class.getDeclaredMethods()) {
            if (Modifier.isPublic(m.getModifiers())) {
                names.add(m.getName());
            }
        }
        return names;
    }

    private static void callsOfTheExample() {
        Bench.about("README.md says how to use the class (making an object, each of its calls)");
        String text = String.join("\n", block());
        Bench.due("new ProbeBench()", text.contains("new ProbeBench()"), true);
        for (String name : face()) {
            Bench.due("the example calls " + name, text.contains("bench." + name + "("), true);
        }
    }

    private static void tableOfCalls() {
        Bench.about("README.md says what a refused call answers");
        Set<String> names = new TreeSet<>();
        for (String line : readme) {
            Matcher row = CALL_ROW.matcher(line);
            if (row.matches()) {
                names.add(row.group(1));
                refusals(row.group(1), row.group(2), row.group(3));
            }
        }
        Bench.due("the calls in the table are " + names, names.equals(face()), true);
    }

    /** The limits of the row are those of the call: its first parameter has them. */
    private static void refusals(String name, String parameters, String refused) {
        Matcher m = LIMITS.matcher(refused);
        boolean limited = m.matches();
        Bench.due(name + " has limits", limited, !parameters.isEmpty());
        Bench.due(name + ", never refused", refused.equals("never"), parameters.isEmpty());
        if (!limited) {
            return;
        }
        Bench.due(name + ", its first parameter is limited",
            parameters.startsWith(m.group(2)), true);
        int least = Integer.parseInt(m.group(3));
        int most = Integer.parseInt(m.group(4));
        for (int v : new int[] {least - 1, least, most, most + 1}) {
            boolean refuses = v < least || v > most;
            Bench.due(name + " with " + v + " answers " + m.group(1),
                answer(name, v).equals(m.group(1)), refuses);
        }
    }

    private static String answer(String name, int v) {
        ProbeBench x = new ProbeBench();
        return switch (name) {
            case "tick" -> "" + x.tick(v, 0, 0);
            case "run" -> "" + x.run(v);
            case "read" -> "" + x.read(v);
            case "write" -> "" + x.write(v, 0);
            case "register" -> "" + x.register(v);
            case "word" -> "" + x.word(v);
            default -> "no such call";
        };
    }

    private static void tests() throws IOException {
        Bench.about("README.md says how to run its tests");
        String text = String.join("\n", readme);
        try (Stream<Path> files = Files.list(Path.of("src/test/java"))) {
            for (Path file : files.toList()) {
                String name = file.getFileName().toString().replace(".java", "");
                Bench.due("README.md names " + name, text.contains("`" + name + "`"), true);
            }
        }
        Bench.due("how to run them", text.contains("\n    .ci/run\n"), true);
        Bench.due("it is there", Files.isExecutable(Path.of(".ci/run")), true);
    }

    private static void theRest() {
        Bench.about("README.md says how to use the class (... the 512 calls)");
        String text = String.join(" ", readme);
        Bench.due("the calls of an object", text.contains("at most 512 calls"), true);
        Bench.due("what a refused call changes", text.contains("changes nothing"), true);
    }
}

import java.io.IOException;
import java.lang.reflect.Method;
import java.lang.reflect.Modifier;
import java.nio.file.Files;
import java.nio.file.Path;
import java.util.ArrayList;
import java.util.Comparator;
import java.util.List;
import java.util.Set;
import java.util.TreeSet;
import java.util.regex.Matcher;
import java.util.regex.Pattern;
import java.util.stream.Stream;

/** README.md is kept true: its examples are compiled and run, and its table names each call. */
public final class ReadmeTest {
    private static final Pattern EXAMPLE = Pattern.compile("```java\n(.*?)```", Pattern.DOTALL);
    private static final Pattern VALUE = Pattern.compile("\\s*int (\\w+) = .*");
    private static final Pattern ANSWERED = Pattern.compile("\\s*int (\\w+) = [^/]*; *// (-?\\d+)(?!\\d)(:.*)?");
    private static final Pattern ROW = Pattern.compile("(?m)^\\| `(\\w+)\\(([^)]*)\\)` \\|");

    private static int wrong = 0;

    public static void main(String[] args) throws IOException, InterruptedException {
        String readme = Files.readString(Path.of("README.md"));
        table(readme);
        examples(readme);
        System.out.println(wrong == 0 ? "README.md says what the class does" : wrong + " faults in README.md");
        if (wrong != 0) {
            System.exit(1);
        }
    }

    private static void fault(String what) {
        wrong++;
        System.out.println(what);
    }

    private static void table(String readme) {
        Set<String> told = new TreeSet<>();
        Matcher row = ROW.matcher(readme);
        while (row.find()) {
            String parameters = row.group(2);
            told.add(row.group(1) + "/" + (parameters.isEmpty() ? 0 : parameters.split(",").length));
        }
        Set<String> face = new TreeSet<>();
        for (Method m : PriceIndexCalculator.class.getDeclaredMethods()) {
            if (Modifier.isPublic(m.getModifiers())) {
                face.add(m.getName() + "/" + m.getParameterCount());
            }
        }
        if (!told.equals(face)) {
            fault("the table tells " + told + ", the class has " + face);
        }
    }

    private static void examples(String readme) throws IOException, InterruptedException {
        List<String> program = new ArrayList<>();
        program.add("public final class Examples {");
        program.add("static boolean wrong = false;");
        program.add("static void due(String name, int got, int want) { if (got != want) { wrong = true;");
        program.add("System.out.println(name + \" is \" + got + \", README.md says \" + want); } }");
        program.add("public static void main(String[] args) {");
        Matcher example = EXAMPLE.matcher(readme);
        int found = 0;
        while (example.find()) {
            found++;
            program.add("{");
            for (String line : example.group(1).split("\n")) {
                program.add(line);
                due(line, program);
            }
            program.add("}");
        }
        program.add("if (wrong) { System.exit(1); } } }");
        if (found == 0) {
            fault("README.md has no example");
        }
        run(program);
    }

    private static void due(String line, List<String> program) {
        if (!VALUE.matcher(line).matches()) {
            return;
        }
        Matcher answered = ANSWERED.matcher(line);
        if (answered.matches()) {
            program.add("due(\"" + answered.group(1) + "\", " + answered.group(1) + ", " + answered.group(2) + ");");
        } else {
            fault("no answer is told: " + line);
        }
    }

    private static void run(List<String> program) throws IOException, InterruptedException {
        Path directory = Files.createTempDirectory("readme");
        Path source = directory.resolve("Examples.java");
        Files.write(source, program);
        String classes = System.getProperty("java.class.path");
        String both = directory + System.getProperty("path.separator") + classes;
        if (exit("javac", "-cp", classes, "-d", directory.toString(), source.toString()) != 0) {
            fault("the examples of README.md do not compile");
        } else if (exit("java", "-cp", both, "Examples") != 0) {
            fault("the examples of README.md do not answer as it says");
        }
        remove(directory);
    }

    private static int exit(String... command) throws IOException, InterruptedException {
        return new ProcessBuilder(command).inheritIO().start().waitFor();
    }

    private static void remove(Path directory) throws IOException {
        List<Path> all;
        try (Stream<Path> inside = Files.walk(directory)) {
            all = inside.sorted(Comparator.reverseOrder()).toList();
        }
        for (Path path : all) {
            Files.delete(path);
        }
    }
}

import java.io.IOException;
import java.lang.reflect.Method;
import java.lang.reflect.Modifier;
import java.nio.file.Files;
import java.nio.file.Path;
import java.util.ArrayList;
import java.util.List;
import java.util.TreeSet;
import java.util.stream.Stream;

/** Compiles and runs the program in README.md, and compares the tests and calls that README.md names with those there. */
public final class ReadmeTests {

    private static final Path README = Path.of("README.md");
    private static final Path TESTS = Path.of("src", "test", "java");
    private static final String CLASS = "src/main/java/TripleJoins.java";
    private static final String PRINT = "System.out.println(";

    private static int right = 0;
    private static int wrong = 0;

    private static void due(String what, Object got, Object want) {
        if (got.equals(want)) {
            right++;
        } else {
            wrong++;
            System.out.println(what + " is " + got + ", due is " + want);
        }
    }

    /** The lines between the first line that begins with one text and the next one that begins with another. */
    private static List<String> between(List<String> lines, String first, String end) {
        List<String> found = new ArrayList<>();
        boolean isIn = false;
        for (String line : lines) {
            if (isIn && line.startsWith(end)) {
                return found;
            }
            if (isIn) {
                found.add(line);
            }
            isIn |= line.startsWith(first);
        }
        return found;
    }

    /** What each printing line says that it prints: its comment, up to a colon. */
    private static List<String> told(List<String> program) {
        List<String> told = new ArrayList<>();
        for (String line : program) {
            if (line.contains(PRINT)) {
                told.add(line.substring(line.indexOf("// ") + 3).replaceFirst(":.*", "").trim());
            }
        }
        return told;
    }

    /** What a command prints; its errors go where this test's own go. */
    private static List<String> output(String... command) throws IOException, InterruptedException {
        Process process = new ProcessBuilder(command).redirectError(ProcessBuilder.Redirect.INHERIT).start();
        List<String> lines = new String(process.getInputStream().readAllBytes()).lines().toList();
        due("the exit code of " + String.join(" ", command), process.waitFor(), 0);
        return lines;
    }

    private static List<String> printed(List<String> program) throws IOException, InterruptedException {
        Path folder = Files.createDirectories(Path.of("build", "example"));
        Path source = Files.write(folder.resolve("Example.java"), program);
        output("javac", "-d", folder.toString(), CLASS, source.toString());
        return output("java", "-cp", folder.toString(), "Example");
    }

    private static void lookAtProgram(List<String> readme) throws IOException, InterruptedException {
        List<String> program = between(readme, "```java", "```");
        List<String> told = told(program);
        due("that the program prints something", told.isEmpty(), false);
        due("what the program prints", printed(program), told);
    }

    private static void lookAtTests(List<String> readme) throws IOException {
        TreeSet<String> named = new TreeSet<>();
        for (String line : between(readme, "## How to run its tests", "## ")) {
            if (line.matches("- `\\w+`:.*")) {
                named.add(line.substring(3, line.indexOf("`:")));
            }
        }
        TreeSet<String> there = new TreeSet<>();
        try (Stream<Path> files = Files.list(TESTS)) {
            files.forEach(file -> there.add(file.getFileName().toString().replace(".java", "")));
        }
        due("the tests that README.md names", named, there);
    }

    private static void lookAtCalls(List<String> readme) {
        String text = String.join("\n", between(readme, "The calls, in the groups", "There is room"));
        for (Method method : TripleJoins.class.getDeclaredMethods()) {
            if (Modifier.isPublic(method.getModifiers())) {
                due("that README.md names " + method.getName(), text.contains("`" + method.getName() + "`"), true);
            }
        }
    }

    public static void main(String[] args) throws IOException, InterruptedException {
        List<String> readme = Files.readAllLines(README);
        lookAtProgram(readme);
        lookAtTests(readme);
        lookAtCalls(readme);
        System.out.println("ReadmeTests: " + right + " things as due, " + wrong + " not");
        if (wrong != 0) {
            System.exit(1);
        }
    }
}

import java.io.ByteArrayOutputStream;
import java.io.PrintStream;
import java.lang.reflect.Method;
import java.lang.reflect.Modifier;
import java.net.URL;
import java.net.URLClassLoader;
import java.nio.file.Files;
import java.nio.file.Path;
import java.util.ArrayList;
import java.util.List;
import java.util.spi.ToolProvider;

/** The program in README.md compiles, and prints what stands behind its lines; README.md names every call. */
public final class ReadmeTest {
    private static final String FENCE = "```";

    public static void main(String[] args) throws Exception {
        List<String> readme = Files.readAllLines(Path.of("README.md"));
        List<String> program = firstProgram(readme);
        List<String> due = answersTold(program);
        Checks.that("README.md tells answers", !due.isEmpty());
        Checks.same("the program of README.md prints", printed(program), due);
        Checks.that("README.md tells the one command", readme.contains("    .ci/run"));
        namesEveryCall(String.join("\n", readme));
        Checks.end();
    }

    private static List<String> firstProgram(List<String> readme) {
        List<String> program = new ArrayList<>();
        boolean isInside = false;
        for (String line : readme) {
            if (isInside && line.startsWith(FENCE)) {
                return program;
            }
            if (isInside) {
                program.add(line);
            }
            isInside |= line.equals(FENCE + "java");
        }
        throw new IllegalStateException("no program in README.md");
    }

    private static List<String> answersTold(List<String> program) {
        List<String> answers = new ArrayList<>();
        for (String line : program) {
            if (line.contains("println(")) {
                int at = line.lastIndexOf("// ");
                Checks.that("an answer stands behind" + line, at > 0);
                answers.add(at < 0 ? "" : line.substring(at + 3));
            }
        }
        return answers;
    }

    private static List<String> printed(List<String> program) throws Exception {
        Path directory = Files.createDirectories(Path.of("build", "readme"));
        Path source = Files.write(directory.resolve("Example.java"), program);
        String path = System.getProperty("java.class.path");
        ToolProvider javac = ToolProvider.findFirst("javac").get();
        int code = javac.run(System.out, System.out,
                "-Xlint:all", "-Werror", "-cp", path, "-d", directory.toString(), source.toString());
        Checks.same("javac of the program of README.md", code, 0);
        PrintStream before = System.out;
        ByteArrayOutputStream bytes = new ByteArrayOutputStream();
        try (URLClassLoader loader = new URLClassLoader(new URL[] {directory.toUri().toURL()})) {
            System.setOut(new PrintStream(bytes, true));
            loader.loadClass("Example").getMethod("main", String[].class).invoke(null, (Object) new String[0]);
        } finally {
            System.setOut(before);
        }
        return bytes.toString().lines().toList();
    }

    private static void namesEveryCall(String readme) {
        for (Method m : StatementCycle.class.getDeclaredMethods()) {
            if (Modifier.isPublic(m.getModifiers())) {
                Checks.that("README.md names " + m.getName(), readme.contains("`" + m.getName() + "`"));
            }
        }
    }
}

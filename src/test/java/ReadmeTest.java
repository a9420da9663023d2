import java.io.ByteArrayOutputStream;
import java.io.File;
import java.io.IOException;
import java.io.PrintStream;
import java.net.URL;
import java.net.URLClassLoader;
import java.nio.file.Files;
import java.nio.file.Path;
import java.util.Comparator;
import java.util.List;
import java.util.regex.Matcher;
import java.util.regex.Pattern;
import java.util.spi.ToolProvider;
import java.util.stream.Stream;

/** README.md tells what is so: its example, its errors and its tests. */
public final class ReadmeTest {
    private static final Path README = Path.of("README.md");
    private static final Path PROGRAM = Path.of("src/main/java/DarkVats.java");
    private static final Path TESTS = Path.of("src/test/java");
    private static final Pattern EXAMPLE = Pattern.compile("```java\n(.*?)```", Pattern.DOTALL);
    private static final Pattern ANSWERED = Pattern.compile("(house\\.(\\w+)\\([^()]*\\))([^;]*;\\s*// )(-?\\d+)");
    private static final Pattern PRINTED = Pattern.compile("println\\(.*// (\\D.*)");

    public static void main(String[] args) throws Exception {
        String readme = Files.readString(README);
        Matcher example = EXAMPLE.matcher(readme);
        check("README.md has an example", example.find());
        String code = example.group(1);
        Path folder = Files.createTempDirectory("readme");
        try {
            runAsTold(readme, code, folder);
            runWithAnswers(code, folder);
        } finally {
            remove(folder);
        }
        namesErrors(readme);
        namesTests(readme);
        Calls.end();
    }

    /** The command of README.md compiles the example, which prints what its last comments tell. */
    private static void runAsTold(String readme, String code, Path folder) throws Exception {
        check("README.md tells how to compile",
            readme.contains("javac -d out src/main/java/DarkVats.java Example.java\n    java -cp out Example"));
        Path out = folder.resolve("out");
        Path file = write(folder.resolve("told"), code);
        check("the example compiles", compile("-d", out.toString(), PROGRAM.toString(), file.toString()));
        String printed = outputOf(out);
        List<String> due = PRINTED.matcher(code).results().map(line -> line.group(1)).toList();
        check("the example prints something", !due.isEmpty());
        for (String line : due) {
            check("the example prints: " + line, printed.contains(line + "\n"));
        }
    }

    /** Each call of the example that has a number behind it answers this number. */
    private static void runWithAnswers(String code, Path folder) throws Exception {
        Matcher calls = ANSWERED.matcher(code);
        StringBuilder checking = new StringBuilder();
        int answers = 0;
        while (calls.find()) {
            calls.appendReplacement(checking, Matcher.quoteReplacement(
                "ReadmeTest.due(\"" + calls.group(1) + "\", " + calls.group(1) + ", " + calls.group(4) + ")")
                + "$3$4");
            answers++;
        }
        calls.appendTail(checking);
        check("the example tells answers", answers > 20);
        Path out = folder.resolve("checked");
        Path file = write(folder.resolve("checking"), checking.toString());
        String path = System.getProperty("java.class.path");
        check("the example with its checks compiles", compile("-cp", path, "-d", out.toString(), file.toString()));
        outputOf(out).lines().filter(line -> line.contains("due is")).forEach(System.out::println);
    }

    public static int due(String call, int got, int due) {
        Calls.check("README.md: " + call, got, due);
        return got;
    }

    private static void namesErrors(String readme) {
        String[] names = {"INVALID_ARGUMENT", "NOT_POSSIBLE", "LIMIT_REACHED", "NOT_FOUND"};
        int[] values = {DarkVats.INVALID_ARGUMENT, DarkVats.NOT_POSSIBLE, DarkVats.LIMIT_REACHED, DarkVats.NOT_FOUND};
        for (int i = 0; i < names.length; i++) {
            Pattern row = Pattern.compile("\\| `DarkVats\\." + names[i] + "` +\\| " + values[i] + " ");
            check("README.md tells of " + names[i], row.matcher(readme).find());
        }
    }

    private static void namesTests(String readme) throws IOException {
        check("README.md tells how the tests are run", readme.contains("    bash .ci/run\n"));
        try (Stream<Path> files = Files.list(TESTS)) {
            for (Path file : files.sorted().toList()) {
                String name = file.getFileName().toString().replace(".java", "");
                check("README.md tells of " + name, readme.contains("`" + name + "`"));
            }
        }
    }

    private static void check(String what, boolean holds) {
        Calls.check(what, holds ? 1 : 0, 1);
    }

    private static Path write(Path folder, String code) throws IOException {
        Files.createDirectories(folder);
        return Files.writeString(folder.resolve("Example.java"), code);
    }

    private static boolean compile(String... arguments) {
        return ToolProvider.findFirst("javac").orElseThrow().run(System.out, System.err, arguments) == 0;
    }

    /** Runs the class Example of a folder, and answers what it prints. */
    private static String outputOf(Path folder) throws Exception {
        PrintStream before = System.out;
        ByteArrayOutputStream bytes = new ByteArrayOutputStream();
        URL[] places = {folder.toUri().toURL()};
        try (URLClassLoader loader = new URLClassLoader(places, ReadmeTest.class.getClassLoader())) {
            System.setOut(new PrintStream(bytes, true));
            loader.loadClass("Example").getMethod("main", String[].class).invoke(null, (Object) new String[0]);
        } finally {
            System.setOut(before);
        }
        return bytes.toString().replace(System.lineSeparator(), "\n");
    }

    private static void remove(Path folder) throws IOException {
        try (Stream<Path> files = Files.walk(folder)) {
            files.sorted(Comparator.reverseOrder()).map(Path::toFile).forEach(File::delete);
        }
    }
}

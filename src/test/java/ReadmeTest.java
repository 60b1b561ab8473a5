import java.io.ByteArrayOutputStream;
import java.io.File;
import java.io.IOException;
import java.io.PrintStream;
import java.lang.reflect.Method;
import java.net.URL;
import java.net.URLClassLoader;
import java.nio.charset.StandardCharsets;
import java.nio.file.Files;
import java.nio.file.Path;
import java.util.ArrayList;
import java.util.List;
import java.util.regex.Matcher;
import java.util.regex.Pattern;
import javax.tools.ToolProvider;

/**
 * README.md holds: its program prints the answers that stand behind the calls, and it names every call
 * with its parameters, every refusal and every test. .ci/run starts it in the project's folder.
 */
public final class ReadmeTest {
    private static final Path README = Path.of("README.md");
    private static final Path FACE = Path.of("src/main/java/RaisedTableaux.java");
    private static final Path OWN_TESTS = Path.of("src/test/java");

    private static int wrong = 0;

    private static void due(boolean holds, String what) {
        if (!holds) {
            wrong++;
            System.out.println(what);
        }
    }

    private static List<String> found(String text, String pattern) {
        List<String> found = new ArrayList<>();
        Matcher matcher = Pattern.compile(pattern, Pattern.DOTALL).matcher(text);
        while (matcher.find()) {
            found.add(matcher.group(1));
        }
        return found;
    }

    // ---- the program

    private static String printed(String program) throws IOException, ReflectiveOperationException {
        Path folder = Files.createTempDirectory("readme");
        Path source = folder.resolve("Use.java");
        Files.writeString(source, program);
        String classes = System.getProperty("java.class.path");
        int compiled = ToolProvider.getSystemJavaCompiler().run(null, null, null, "-cp", classes, "-d",
                folder.toString(), source.toString());
        due(compiled == 0, "the program does not compile");
        ByteArrayOutputStream bytes = new ByteArrayOutputStream();
        PrintStream screen = System.out;
        try (URLClassLoader loader = new URLClassLoader(new URL[] {folder.toUri().toURL()});
                PrintStream caught = new PrintStream(bytes, true, StandardCharsets.UTF_8)) {
            Method main = loader.loadClass("Use").getMethod("main", String[].class);
            System.setOut(caught);
            main.invoke(null, (Object) new String[0]);
        } finally {
            System.setOut(screen);
            deleteAll(folder.toFile());
        }
        return bytes.toString(StandardCharsets.UTF_8);
    }

    private static void deleteAll(File folder) {
        for (File file : folder.listFiles()) {
            due(file.delete(), "can't delete " + file);
        }
        due(folder.delete(), "can't delete " + folder);
    }

    private static void program(String readme) throws IOException, ReflectiveOperationException {
        List<String> programs = found(readme, "```java\n(.*?)```");
        due(programs.size() == 1, "there are " + programs.size() + " programs");
        for (String program : programs) {
            List<String> told = found(program, "println\\([^\n]*\\); *// (-?\\d+)");
            due(told.size() == found(program, "(println)").size(), "a call has no answer behind it");
            List<String> seen = printed(program).lines().toList();
            due(seen.equals(told), "the program prints " + seen + ", told is " + told);
        }
    }

    // ---- what is named

    private static void calls(String readme) throws IOException {
        List<String> face = found(Files.readString(FACE), "\n    public int (\\w+\\([^)]*\\))");
        due(face.size() == 34, "the class has " + face.size() + " calls");
        for (String call : face) {
            String named = call.replaceAll("\\b(int|long) ", "");
            due(found(readme, "\\| [^|]*(`" + Pattern.quote(named) + "`)[^|]*\\|").size() == 1,
                    "no row tells what " + named + " answers");
        }
    }

    private static void refusals(String readme) {
        String[] told = {"-1 | `BAD`", "-2 | `FULL`", "-3 | `NONE`", "-11 | ", "-12 | ", "-13 | ", "-14 | ",
            "-16 | `OVER`", "-100 and below | "};
        for (String refusal : told) {
            due(readme.contains("\n| " + refusal), "no row tells what " + refusal + " means");
        }
    }

    private static void tests(String readme) {
        due(readme.contains("\n    .ci/run\n"), "the command that runs the tests is not told");
        due(Files.isExecutable(Path.of(".ci/run")), "there is no such command");
        for (String file : OWN_TESTS.toFile().list()) {
            due(readme.contains("`" + file.replace(".java", "") + "`"), file + " is not named");
        }
        for (String name : found(readme, "`(\\w+Test)`")) {
            due(Files.exists(OWN_TESTS.resolve(name + ".java")), "there is no " + name);
        }
    }

    public static void main(String[] args) throws IOException, ReflectiveOperationException {
        String readme = Files.readString(README);
        program(readme);
        calls(readme);
        refusals(readme);
        tests(readme);
        System.out.println(wrong == 0 ? "README.md holds" : wrong + " things in README.md are not as due");
        if (wrong != 0) {
            System.exit(1);
        }
    }
}

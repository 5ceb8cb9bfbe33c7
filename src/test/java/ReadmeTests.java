import java.io.ByteArrayOutputStream;
import java.io.IOException;
import java.io.PrintStream;
import java.lang.reflect.InvocationTargetException;
import java.lang.reflect.Method;
import java.lang.reflect.Modifier;
import java.net.URL;
import java.net.URLClassLoader;
import java.nio.charset.StandardCharsets;
import java.nio.file.Files;
import java.nio.file.Path;
import java.util.ArrayList;
import java.util.List;
import java.util.regex.Matcher;
import java.util.regex.Pattern;
import javax.tools.JavaCompiler;
import javax.tools.ToolProvider;

/** The example of README.md, compiled and run as it says there, and its table of calls. */
public final class ReadmeTests {
    private static final Checks CHECKS = new Checks("ReadmeTests");
    private static final Path README = Path.of("README.md");
    private static final Path MAIN = Path.of("src/main/java/Tuneward.java");
    private static final String EXAMPLE = "Example";
    private static final Pattern PRINTING =
            Pattern.compile("\\s*System\\.out\\.println\\(.*\\);\\s+// (.*)");

    public static void main(String[] args) throws IOException {
        List<String> lines = Files.readAllLines(README);
        List<String> example = blockBehind(lines, "```java");
        CHECKS.holds("there is an example", !example.isEmpty());
        example(example);
        calls(lines);
        folders(lines);
        CHECKS.end();
    }

    /** The lines of the only block that begins so. */
    private static List<String> blockBehind(List<String> lines, String beginning) {
        List<String> block = new ArrayList<>();
        boolean inside = false;
        int found = 0;
        for (String line : lines) {
            if (line.equals(beginning)) {
                inside = true;
                found++;
            } else if (line.startsWith("```")) {
                inside = false;
            } else if (inside) {
                block.add(line);
            }
        }
        CHECKS.same("blocks of " + beginning, found, 1);
        return block;
    }

    private static void example(List<String> example) throws IOException {
        Path folder = Files.createTempDirectory("readme");
        Path file = folder.resolve(EXAMPLE + ".java");
        Path room = folder.resolve("Tuneward.java");
        Files.write(file, example);
        Files.copy(MAIN, room);
        if (compiles(file, room)) {
            answers(example, run(folder));
        }
        for (Path one : filesIn(folder)) {
            Files.delete(one);
        }
        Files.delete(folder);
    }

    private static List<Path> filesIn(Path folder) throws IOException {
        try (var files = Files.list(folder)) {
            return files.toList();
        }
    }

    /** Both beside each other, with nothing else to be found. */
    private static boolean compiles(Path file, Path room) {
        JavaCompiler compiler = ToolProvider.getSystemJavaCompiler();
        CHECKS.holds("this is a JDK, with a compiler", compiler != null);
        if (compiler == null) {
            return false;
        }
        String folder = file.getParent().toString();
        int code = compiler.run(null, null, null, "-Xlint:all", "-Werror", "-cp", folder,
                "-d", folder, file.toString(), room.toString());
        CHECKS.same("the example compiles", code, 0);
        return code == 0;
    }

    private static List<String> run(Path folder) throws IOException {
        ByteArrayOutputStream text = new ByteArrayOutputStream();
        PrintStream before = System.out;
        URL[] only = {folder.toUri().toURL()};
        try (URLClassLoader loader =
                new URLClassLoader(only, ClassLoader.getPlatformClassLoader());
                PrintStream caught = new PrintStream(text, true, StandardCharsets.UTF_8)) {
            Method main = loader.loadClass(EXAMPLE).getMethod("main", String[].class);
            System.setOut(caught);
            main.invoke(null, (Object) new String[0]);
        } catch (InvocationTargetException e) {
            CHECKS.same("what the example throws", e.getCause().toString(), "nothing");
        } catch (ReflectiveOperationException e) {
            CHECKS.same("what hinders the example", e.toString(), "nothing");
        } finally {
            System.setOut(before);
        }
        return text.toString(StandardCharsets.UTF_8).lines().toList();
    }

    private static void answers(List<String> example, List<String> printed) {
        int at = 0;
        for (String line : example) {
            Matcher one = PRINTING.matcher(line);
            if (one.matches()) {
                CHECKS.same(line.trim(), at < printed.size() ? printed.get(at) : "nothing",
                        one.group(1));
                at++;
            } else {
                CHECKS.holds("an answer stands behind: " + line, !line.contains("System.out"));
            }
        }
        CHECKS.same("lines printed", printed.size(), at);
    }

    /** The table names each call with as many numbers as it takes, and no other ones. */
    private static void calls(List<String> lines) {
        List<String> told = new ArrayList<>();
        for (String line : lines) {
            Matcher call = Pattern.compile("`(\\w+)\\(([^`]*)\\)`").matcher(line);
            while (line.startsWith("| ") && call.find()) {
                int many = call.group(2).isEmpty() ? 0 : call.group(2).split(", ").length;
                told.add(call.group(1) + " " + many);
            }
        }
        List<String> due = new ArrayList<>();
        for (Method method : Tuneward.class.getDeclaredMethods()) {
            if (Modifier.isPublic(method.getModifiers())) {
                due.add(method.getName() + " " + method.getParameterCount());
            }
        }
        told.sort(null);
        due.sort(null);
        CHECKS.same("the table of calls", told, due);
    }

    private static void folders(List<String> lines) throws IOException {
        String text = String.join("\n", lines);
        CHECKS.holds("how to run the tests", text.contains("`bash .ci/run`"));
        for (Path file : filesIn(Path.of("src/test/java"))) {
            String name = file.getFileName().toString().replace(".java", "");
            CHECKS.holds("README.md names " + name,
                    !name.endsWith("Tests") || text.contains("- `" + name + "`"));
        }
    }
}

import java.io.IOException;
import java.lang.reflect.Method;
import java.lang.reflect.Modifier;
import java.net.URL;
import java.net.URLClassLoader;
import java.nio.file.Files;
import java.nio.file.Path;
import java.util.ArrayList;
import java.util.List;
import java.util.regex.Matcher;
import java.util.regex.Pattern;
import javax.tools.ToolProvider;

/** Compiles and runs the examples of README.md; the answer that is due stands first behind // in their lines. */
public final class ReadmeTest {
    private static final Pattern LINE = Pattern.compile("(?:int \\w+ = )?(club\\.\\w+\\(.*\\)); +// (-?\\d+|true|false)(?::.*)?");
    private static final String FIRST_LINE = "OddShoes club = new OddShoes();";
    private static int wrong = 0;
    private static int answers = 0;

    public static void main(String[] args) throws Exception {
        String text = Files.readString(Path.of("README.md"));
        List<String> examples = blocks(text);
        check(examples.size() == 2, "examples: " + examples.size());
        for (String example : examples) {
            run(example);
        }
        for (Method m : OddShoes.class.getDeclaredMethods()) {
            check(!Modifier.isPublic(m.getModifiers()) || text.contains("`" + m.getName() + "`"), "not told of: " + m);
        }
        check(text.contains(".ci/run"), "not told how to run the tests");
        for (Path test : testsOfTheProject()) {
            String name = test.getFileName().toString().replace(".java", "");
            check(text.contains("- `" + name + "`:"), "not told of: " + name);
        }
        System.out.println(wrong == 0 ? "README.md is right, by " + answers + " answers" : wrong + " faults");
        if (wrong != 0) {
            System.exit(1);
        }
    }

    private static void check(boolean is, String what) {
        if (!is) {
            wrong++;
            System.out.println("README.md: " + what);
        }
    }

    /** Called by the examples, which are compiled without a package beside this class. */
    public static void due(String call, Object got, String want) {
        answers++;
        check(String.valueOf(got).equals(want), call + " answered " + got + ", it says " + want);
    }

    private static List<Path> testsOfTheProject() throws IOException {
        try (var files = Files.list(Path.of("src/test/java"))) {
            return files.toList();
        }
    }

    private static List<String> blocks(String text) {
        List<String> found = new ArrayList<>();
        Matcher block = Pattern.compile("```java\n(.*?)```", Pattern.DOTALL).matcher(text);
        while (block.find()) {
            found.add(block.group(1));
        }
        return found;
    }

    private static void run(String example) throws Exception {
        StringBuilder source = new StringBuilder("public class Example { public static void main(String[] args) {\n");
        for (String line : example.split("\n")) {
            source.append(checked(line)).append('\n');
        }
        Path dir = Files.createTempDirectory("readme");
        Path file = dir.resolve("Example.java");
        Files.writeString(file, source.append("} }\n"));
        String classes = System.getProperty("java.class.path");
        int failed = ToolProvider.getSystemJavaCompiler().run(null, null, null,
                "-cp", classes, "-d", dir.toString(), file.toString());
        check(failed == 0, "an example does not compile");
        if (failed == 0) {
            try (URLClassLoader loader = new URLClassLoader(new URL[] {dir.toUri().toURL()})) {
                loader.loadClass("Example").getMethod("main", String[].class).invoke(null, (Object) new String[0]);
            }
        }
        Files.deleteIfExists(dir.resolve("Example.class"));
        Files.delete(file);
        Files.delete(dir);
    }

    /** The line with a look at its answer. */
    private static String checked(String line) {
        if (line.equals(FIRST_LINE)) {
            return line;
        }
        Matcher parts = LINE.matcher(line);
        if (!parts.matches()) {
            check(false, "a line without an answer: " + line);
            return "";
        }
        String call = parts.group(1);
        int from = line.indexOf(call);
        String name = from == 0 ? "" : line.substring("int ".length(), line.indexOf(" ="));
        String made = from == 0 ? call : name;
        String first = from == 0 ? "" : "int " + name + " = " + call + "; ";
        return first + "ReadmeTest.due(\"" + call + "\", " + made + ", \"" + parts.group(2) + "\");";
    }
}

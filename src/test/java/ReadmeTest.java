import java.io.ByteArrayOutputStream;
import java.io.IOException;
import java.io.PrintStream;
import java.lang.reflect.InvocationTargetException;
import java.lang.reflect.Method;
import java.lang.reflect.Modifier;
import java.net.URL;
import java.net.URLClassLoader;
import java.nio.file.Files;
import java.nio.file.Path;
import java.util.ArrayList;
import java.util.Arrays;
import java.util.Collections;
import java.util.List;
import java.util.regex.Matcher;
import java.util.regex.Pattern;
import java.util.stream.Stream;
import javax.tools.ToolProvider;

/** What README.md says is true of the project as it stands. */
public final class ReadmeTest {
    private static final Check CHECK = new Check();

    public static void main(String[] args) throws Exception {
        Path root = Path.of(System.getProperty("riverifs.root"));
        String page = Files.readString(root.resolve("README.md"));
        example(page);
        calls(page);
        paths(root, page);
        tests(root, page);
        CHECK.end();
    }

    private static void example(String page) throws Exception {
        CHECK.promise("the example of README.md");
        Matcher block = Pattern.compile("(?s)```java\n(.*?)```").matcher(page);
        CHECK.same("an example", block.find(), true);
        String program = block.group(1);
        CHECK.same("what it prints", printedBy(program), commentsOf(program));
        CHECK.same("it prints something", commentsOf(program).isEmpty(), false);
    }

    /** Each line that prints says behind it what, up to a colon. */
    private static List<String> commentsOf(String program) {
        List<String> all = new ArrayList<>();
        for (String line : program.split("\n")) {
            if (line.contains("println(")) {
                Matcher said = Pattern.compile(".*// ([^:]*)(:.*)?").matcher(line);
                all.add(said.matches() ? said.group(1) : "nothing said of " + line.strip());
            }
        }
        return all;
    }

    private static List<String> printedBy(String program) throws Exception {
        Path folder = Files.createTempDirectory("readme");
        try {
            Path file = Files.writeString(folder.resolve("Example.java"), program);
            int compiled = ToolProvider.getSystemJavaCompiler().run(null, null, null, "-cp",
                    System.getProperty("java.class.path"), "-d", folder.toString(), file.toString());
            CHECK.same("it is compiled", compiled, 0);
            return compiled == 0 ? linesOf(folder) : List.of();
        } finally {
            remove(folder);
        }
    }

    private static List<String> linesOf(Path folder) throws Exception {
        PrintStream before = System.out;
        ByteArrayOutputStream printed = new ByteArrayOutputStream();
        try (URLClassLoader loader = new URLClassLoader(new URL[] {folder.toUri().toURL()})) {
            Method main = loader.loadClass("Example").getMethod("main", String[].class);
            System.setOut(new PrintStream(printed, true));
            main.invoke(null, (Object) new String[0]);
        } catch (InvocationTargetException e) {
            return List.of("throws " + e.getCause());
        } finally {
            System.setOut(before);
        }
        return Arrays.asList(printed.toString().split("\\R"));
    }

    private static void remove(Path folder) throws IOException {
        try (Stream<Path> files = Files.walk(folder)) {
            for (Path one : files.sorted(Collections.reverseOrder()).toList()) {
                Files.delete(one);
            }
        }
    }

    /** The table has each call of the face once, with as many arguments as it takes. */
    private static void calls(String page) {
        CHECK.promise("the table of README.md");
        List<String> due = new ArrayList<>();
        for (Method m : RiverIfs.class.getDeclaredMethods()) {
            if (Modifier.isPublic(m.getModifiers())) {
                due.add(m.getName() + " " + m.getParameterCount());
            }
        }
        List<String> got = new ArrayList<>();
        for (String line : page.split("\n")) {
            Matcher call = Pattern.compile("`(\\w+)\\(([^)]*)\\)`").matcher(line);
            while (line.startsWith("| `") && call.find()) {
                String within = call.group(2);
                got.add(call.group(1) + " " + (within.isEmpty() ? 0 : within.split(",").length));
            }
        }
        Collections.sort(due);
        Collections.sort(got);
        CHECK.same("calls", got, due);
    }

    private static void paths(Path root, String page) {
        CHECK.promise("the paths of README.md");
        Matcher path = Pattern.compile("`([^`\\s|]*/[^`\\s|]*)`").matcher(page);
        int found = 0;
        while (path.find()) {
            found++;
            CHECK.same(path.group(1), Files.exists(root.resolve(path.group(1))), true);
        }
        CHECK.same("some", found > 0, true);
        CHECK.same(".ci/run can be run", Files.isExecutable(root.resolve(".ci/run")), true);
    }

    /** It names every test of the project, and no other one. */
    private static void tests(Path root, String page) throws IOException {
        CHECK.promise("the tests of README.md");
        List<String> due = new ArrayList<>();
        try (Stream<Path> files = Files.list(root.resolve("src/test/java"))) {
            files.map(f -> f.getFileName().toString()).filter(f -> f.endsWith("Test.java"))
                    .forEach(f -> due.add(f.replace(".java", "")));
        }
        List<String> got = new ArrayList<>();
        Matcher name = Pattern.compile("`(\\w+Test)`").matcher(page);
        while (name.find()) {
            got.add(name.group(1));
        }
        Collections.sort(due);
        Collections.sort(got);
        CHECK.same("names", got, due);
    }
}

import java.io.IOException;
import java.lang.reflect.Method;
import java.lang.reflect.Modifier;
import java.net.URL;
import java.net.URLClassLoader;
import java.nio.file.Files;
import java.nio.file.Path;
import java.util.ArrayList;
import java.util.List;
import java.util.Set;
import java.util.TreeSet;
import java.util.regex.Matcher;
import java.util.regex.Pattern;
import java.util.stream.Stream;
import javax.tools.ToolProvider;

/** What README.md shows: its example is compiled and run, its commands do what the calls beside them do. */
public final class ReadmeTest {
    private static final String NAME = "ReadmeExample";
    private static final Pattern ANSWERING = Pattern.compile("(.*);\\s*// answers ([^:]+).*");
    private static final Pattern COMMANDS = Pattern.compile("\\| (`[a-z].*) \\| (`.*\\)`) \\|");

    public static void main(String[] args) throws IOException, ReflectiveOperationException {
        String readme = Files.readString(Path.of("README.md"));
        List<String> source = new ArrayList<>(List.of("public class " + NAME + " {"));
        int answers = addExample(source, readme);
        List<String> scripts = addCommands(source, readme);
        source.add("}");
        Due.is("the example was found", true, answers > 5);
        Due.is("the commands were found", 11, scripts.size());
        runAll(source, answers, scripts);
        everyCallIsNamed(readme);
        everyTestIsNamed(readme);
        Due.end();
    }

    /** A line that says what it answers puts what it says and what it does answer into a list. */
    private static int addExample(List<String> source, String readme) {
        int answers = 0;
        source.add("public static void example(java.util.List<Object> said, java.util.List<Object> got) {");
        Matcher block = Pattern.compile("(?s)```java\n(.*?)```").matcher(readme);
        while (block.find()) {
            for (String line : block.group(1).split("\n")) {
                Matcher answering = ANSWERING.matcher(line);
                if (answering.matches()) {
                    answers++;
                    source.add("said.add(" + answering.group(2) + "); got.add(" + answering.group(1) + ");");
                } else {
                    source.add(line);
                }
            }
        }
        source.add("}");
        return answers;
    }

    /** Returns the scripts; the call that stands beside each becomes a method of its own. */
    private static List<String> addCommands(List<String> source, String readme) {
        List<String> scripts = new ArrayList<>();
        Matcher row = COMMANDS.matcher(readme);
        while (row.find()) {
            List<String> calls = quoted(row.group(2));
            for (String script : quoted(row.group(1))) {
                String call = calls.remove(0);
                source.add("public static void call" + scripts.size() + "(SledgePost post) { post." + call + "; }");
                scripts.add(script);
            }
        }
        return scripts;
    }

    private static List<String> quoted(String text) {
        List<String> found = new ArrayList<>();
        Matcher matcher = Pattern.compile("`([^`]*)`").matcher(text);
        while (matcher.find()) {
            found.add(matcher.group(1));
        }
        return found;
    }

    private static void runAll(List<String> source, int answers, List<String> scripts)
            throws IOException, ReflectiveOperationException {
        Path directory = Files.createTempDirectory("readme");
        try {
            Path file = directory.resolve(NAME + ".java");
            Files.write(file, source);
            String path = System.getProperty("java.class.path");
            int failed = ToolProvider.getSystemJavaCompiler().run(null, null, null, "-cp", path, file.toString());
            Due.is("what README.md shows compiles", 0, failed);
            if (failed == 0) {
                try (URLClassLoader loader = new URLClassLoader(new URL[] {directory.toUri().toURL()})) {
                    Class<?> example = loader.loadClass(NAME);
                    runExample(example, answers);
                    runCommands(example, scripts);
                }
            }
        } finally {
            delete(directory);
        }
    }

    private static void delete(Path directory) throws IOException {
        try (Stream<Path> files = Files.list(directory)) {
            for (Path file : files.toList()) {
                Files.delete(file);
            }
        }
        Files.delete(directory);
    }

    private static void runExample(Class<?> example, int answers) throws ReflectiveOperationException {
        List<Object> said = new ArrayList<>();
        List<Object> got = new ArrayList<>();
        example.getMethod("example", List.class, List.class).invoke(null, said, got);
        Due.is("what README.md says is answered", said, got);
        Due.is("as often as it says so", answers, got.size());
    }

    /** The rows in their order make one story, which begins with one station. */
    private static void runCommands(Class<?> example, List<String> scripts) throws ReflectiveOperationException {
        SledgePost typed = Posts.withStations(1);
        SledgePost called = Posts.withStations(1);
        for (int i = 0; i < scripts.size(); i++) {
            String before = Posts.picture(called);
            Due.is("runs: " + scripts.get(i), 1, Posts.run(typed, scripts.get(i)));
            example.getMethod("call" + i, SledgePost.class).invoke(null, called);
            Due.is("the same: " + scripts.get(i), Posts.picture(called), Posts.picture(typed));
            Due.is("something else: " + scripts.get(i), false, before.equals(Posts.picture(typed)));
        }
    }

    private static void everyCallIsNamed(String readme) {
        for (Method method : SledgePost.class.getDeclaredMethods()) {
            if (Modifier.isPublic(method.getModifiers())) {
                Due.is("named: " + method, true, readme.contains("`" + method.getName() + "`"));
            }
        }
    }

    private static void everyTestIsNamed(String readme) throws IOException {
        Set<String> named = new TreeSet<>();
        Matcher row = Pattern.compile("(?m)^\\| `([A-Z]\\w*Test)` \\|").matcher(readme);
        while (row.find()) {
            named.add(row.group(1) + ".java");
        }
        Set<String> there = new TreeSet<>();
        try (Stream<Path> files = Files.list(Path.of("src/test/java"))) {
            files.map(file -> file.getFileName().toString()).filter(name -> name.endsWith("Test.java"))
                    .forEach(there::add);
        }
        Due.is("the tests", there, named);
    }
}

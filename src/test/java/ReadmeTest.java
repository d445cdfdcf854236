import java.io.IOException;
import java.lang.reflect.InvocationTargetException;
import java.lang.reflect.Method;
import java.lang.reflect.Modifier;
import java.net.URL;
import java.net.URLClassLoader;
import java.nio.file.Files;
import java.nio.file.Path;
import java.util.ArrayList;
import java.util.List;
import java.util.TreeSet;
import java.util.regex.Matcher;
import java.util.regex.Pattern;
import java.util.stream.Stream;
import javax.tools.ToolProvider;

/** What README.md says: its example is run, and its names are those of the class and of the tests. */
public final class ReadmeTest {
    private static final Path README = Path.of("README.md");
    private static final Path TESTS = Path.of("src/test/java");
    private static final String EXAMPLE = "ReadmeExample";
    private static final Pattern BLOCK = Pattern.compile("(?s)```java\n(.*?)```");
    /** A call with an arrow behind it, its answer, and more words or none behind a comma. */
    private static final Pattern ANSWER = Pattern.compile("(c\\..*\\)); +// -> ([^,]+)(,.*)?");
    private static final Pattern ROW = Pattern.compile("(?m)^\\| `(\\w+)\\(([\\w, ]*)\\)` \\|");

    private final String page;
    private int answers;

    private ReadmeTest() throws IOException {
        page = Files.readString(README);
    }

    public static void main(String[] args) throws Exception {
        Checks.begin("README.md");
        ReadmeTest readme = new ReadmeTest();
        readme.dueExample();
        readme.dueTable();
        readme.dueTests();
        System.exit(Checks.end());
    }

    // ---- the example

    /** The first block is a method that the second one calls. */
    private void dueExample() throws Exception {
        List<String> blocks = new ArrayList<>();
        Matcher matcher = BLOCK.matcher(page);
        while (matcher.find()) {
            blocks.add(matcher.group(1));
        }
        Checks.due("blocks of Java", blocks.size(), 2);
        StringBuilder source = new StringBuilder("final class " + EXAMPLE + " {\n" + blocks.get(0));
        source.append("public static void run(java.util.List<Object> told) {\n");
        blocks.get(1).lines().forEach(line -> source.append(asked(line)).append('\n'));
        run(source.append("}\n}\n").toString());
        Checks.due("answers are told", answers > 0, true);
        Checks.due("arrows", page.split(" // -> ", -1).length - 1, answers);
    }

    private String asked(String line) {
        Matcher matcher = ANSWER.matcher(line);
        if (!matcher.matches()) {
            return line;
        }
        answers++;
        String call = matcher.group(1);
        return "told.add(\"" + call + "\"); told.add(" + call + "); told.add(" + matcher.group(2) + ");";
    }

    private void run(String source) throws Exception {
        Path build = Files.createTempDirectory("readme");
        Path file = build.resolve(EXAMPLE + ".java");
        Files.writeString(file, source);
        int exit = ToolProvider.getSystemJavaCompiler().run(null, null, null, "-proc:none", "-d",
                build.toString(), "-cp", System.getProperty("java.class.path"), file.toString());
        Checks.due("javac of the example", exit, 0);
        if (exit == 0) {
            try (URLClassLoader loader = new URLClassLoader(new URL[] {build.toUri().toURL()})) {
                call(loader.loadClass(EXAMPLE).getMethod("run", List.class));
            }
        }
        removeAll(build);
    }

    private void call(Method example) throws IllegalAccessException {
        example.setAccessible(true);
        List<Object> told = new ArrayList<>();
        String thrown = Checks.NOTHING;
        try {
            example.invoke(null, told);
        } catch (InvocationTargetException wrapped) {
            thrown = wrapped.getCause().toString();
        }
        Checks.due("what the example throws", thrown, Checks.NOTHING);
        Checks.due("its calls", told.size(), 3 * answers);
        for (int row = 0; row + 2 < told.size(); row += 3) {
            Checks.due(told.get(row).toString(), told.get(row + 1).toString(), told.get(row + 2).toString());
        }
    }

    private static void removeAll(Path directory) throws IOException {
        try (Stream<Path> files = Files.list(directory)) {
            for (Path file : files.toList()) {
                Files.delete(file);
            }
        }
        Files.delete(directory);
    }

    // ---- the names

    private void dueTable() {
        List<String> told = new ArrayList<>();
        Matcher matcher = ROW.matcher(page);
        while (matcher.find()) {
            String arguments = matcher.group(2);
            told.add(matcher.group(1) + " " + (arguments.isEmpty() ? 0 : arguments.split(", ").length));
        }
        List<String> face = new ArrayList<>();
        for (Method method : Catalogmend.class.getDeclaredMethods()) {
            if (Modifier.isPublic(method.getModifiers())) {
                face.add(method.getName() + " " + method.getParameterCount());
            }
        }
        Checks.due("calls in the table", new TreeSet<>(told).toString(), new TreeSet<>(face).toString());
        Checks.due("as many rows", told.size(), face.size());
        for (String constant : List.of("NONE", "OPEN", "GUESSED", "DONE")) {
            Checks.due(constant + " is told", page.contains("`" + constant + "`"), true);
        }
    }

    private void dueTests() throws IOException {
        try (Stream<Path> files = Files.list(TESTS)) {
            for (Path file : files.toList()) {
                String name = file.getFileName().toString();
                Checks.due(name + " is told", page.contains("`" + name + "`") || page.contains("/" + name + "`"), true);
            }
        }
        Matcher matcher = Pattern.compile("`src/(\\S+\\.java)`").matcher(page);
        while (matcher.find()) {
            Checks.due(matcher.group(1) + " stands", Files.exists(Path.of("src", matcher.group(1))), true);
        }
        Checks.due("how they are run", page.contains("\n.ci/run\n"), true);
        Checks.due(".ci/run is executable", Files.isExecutable(Path.of(".ci/run")), true);
    }
}

import java.io.IOException;
import java.io.UncheckedIOException;
import java.lang.reflect.Method;
import java.lang.reflect.Modifier;
import java.net.URL;
import java.net.URLClassLoader;
import java.nio.file.Files;
import java.nio.file.Path;
import java.util.Comparator;
import java.util.List;
import java.util.Set;
import java.util.TreeSet;
import java.util.regex.Matcher;
import java.util.regex.Pattern;
import java.util.stream.Stream;
import javax.tools.ToolProvider;

/** README.md: what it shows as an answer is what the class answers; run from the project's directory. */
public final class ReadmeTest {
    private static final Check CHECK = new Check();
    private static final Pattern BLOCK = Pattern.compile("```java\\n(.*?)```", Pattern.DOTALL);
    private static final Pattern ANSWERED = Pattern.compile("(?m)^(room\\.(\\w+)\\([^;\\n]*\\)); +// ([^:\\n]+): .*$");
    private static final Pattern UNANSWERED = Pattern.compile("(?m)^room\\..*$");

    private final Set<String> shown = new TreeSet<>();
    private int answers = 0;

    /** The page's calls, turned into a program, come back to here. */
    public static void due(String call, long got, long want) {
        CHECK.due("README.md: " + call, got, want);
    }

    public static void main(String[] args) throws IOException {
        String page = Files.readString(Path.of("README.md"));
        ReadmeTest test = new ReadmeTest();
        String program = test.program(page);
        CHECK.holds("answers are shown", test.answers > 50);
        run(program);
        test.showsEachCall();
        namesEachTest(page);
        CHECK.end();
    }

    private String program(String page) {
        StringBuilder program = new StringBuilder("public final class Shown {\n    public static void ask() {\n");
        Matcher blocks = BLOCK.matcher(page);
        while (blocks.find()) {
            String asked = ANSWERED.matcher(blocks.group(1)).replaceAll(line -> {
                shown.add(line.group(2));
                answers++;
                String told = line.group(1).replace("'", "");
                return Matcher.quoteReplacement("ReadmeTest.due(\"" + told + "\", " + line.group(1) + ", "
                        + line.group(3) + ");");
            });
            Matcher left = UNANSWERED.matcher(asked);
            while (left.find()) {
                CHECK.holds("an answer is shown behind " + left.group(), false);
            }
            program.append("{\n").append(asked).append("}\n");
        }
        return program.append("    }\n}\n").toString();
    }

    private static void run(String program) throws IOException {
        Path made = Files.createTempDirectory("shown");
        try {
            Path source = Files.writeString(made.resolve("Shown.java"), program);
            int compiled = ToolProvider.getSystemJavaCompiler().run(null, null, null, "-cp",
                    System.getProperty("java.class.path"), "-d", made.toString(), source.toString());
            CHECK.due("README.md compiles", compiled, 0);
            if (compiled == 0) {
                ask(made);
            }
        } finally {
            wipe(made);
        }
    }

    private static void ask(Path made) throws IOException {
        try (URLClassLoader loader = new URLClassLoader(new URL[] {made.toUri().toURL()})) {
            loader.loadClass("Shown").getMethod("ask").invoke(null);
        } catch (ReflectiveOperationException e) {
            throw new IllegalStateException(e);
        }
    }

    private static void wipe(Path directory) throws IOException {
        try (Stream<Path> all = Files.walk(directory)) {
            all.sorted(Comparator.reverseOrder()).forEach(path -> {
                try {
                    Files.delete(path);
                } catch (IOException e) {
                    throw new UncheckedIOException(e);
                }
            });
        }
    }

    private void showsEachCall() {
        for (Method method : FormRoom.class.getDeclaredMethods()) {
            if (Modifier.isPublic(method.getModifiers())) {
                CHECK.holds("README.md shows " + method.getName() + "()", shown.contains(method.getName()));
            }
        }
    }

    /** Its table has a row for each test that there is, and for no other. */
    private static void namesEachTest(String page) throws IOException {
        Set<String> named = new TreeSet<>();
        Matcher rows = Pattern.compile("(?m)^\\| (`\\w+Test`.*?) \\|").matcher(page);
        while (rows.find()) {
            for (String name : List.of(rows.group(1).split(", "))) {
                named.add(name.replace("`", "") + ".java");
            }
        }
        Set<String> there = new TreeSet<>();
        try (Stream<Path> files = Files.list(Path.of("src/test/java"))) {
            files.map(path -> path.getFileName().toString()).filter(name -> name.endsWith("Test.java"))
                    .forEach(there::add);
        }
        CHECK.holds("tests that README.md names " + named + ", that there are " + there, named.equals(there));
    }
}

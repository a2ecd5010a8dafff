import java.io.IOException;
import java.io.UncheckedIOException;
import java.lang.reflect.InvocationTargetException;
import java.lang.reflect.Method;
import java.net.URL;
import java.net.URLClassLoader;
import java.nio.file.Files;
import java.nio.file.Path;
import java.util.ArrayList;
import java.util.Comparator;
import java.util.List;
import java.util.Set;
import java.util.TreeSet;
import java.util.regex.Matcher;
import java.util.regex.Pattern;
import java.util.stream.Stream;
import javax.tools.ToolProvider;

/** What README.md shows of the class compiles, and each call in it answers what stands behind it. */
public final class ReadmeTest {
    private static final Path README = Path.of("README.md");
    private static final Path TESTS = Path.of("src/test/java");
    private static final int MOST_CALLS = 512;
    private static final Pattern BLOCK = Pattern.compile("(?ms)^```java\n(.*?)^```$");
    private static final Pattern SHOWN = Pattern.compile("screens\\.(\\w+)\\((.*)\\); *// (-?\\d+|true|false)(?:: .+)?");

    private static final Set<String> callsShown = new TreeSet<>();
    private static int checks = 0;
    private static int wrong = 0;

    private ReadmeTest() {
    }

    public static void main(String[] args) throws IOException, ReflectiveOperationException {
        String page = Files.readString(README);
        List<String> helpers = new ArrayList<>();
        List<String> examples = new ArrayList<>();
        Matcher m = BLOCK.matcher(page);
        while (m.find()) {
            (m.group(1).startsWith("static ") ? helpers : examples).add(m.group(1));
        }
        run(programOf(helpers, examples));
        everyCallIsShown();
        testsAreNamed(page);
        System.out.println(wrong == 0 ? checks + " answers of README.md as due" : wrong + " are not as due");
        System.exit(wrong == 0 ? 0 : 1);
    }

    /** Called by the examples, too. */
    public static void due(String call, Object got, String want) {
        checks++;
        if (!String.valueOf(got).equals(want)) {
            fail(call + " answers " + got + ", shown is " + want);
        }
    }

    private static void fail(String what) {
        wrong++;
        System.out.println(what);
    }

    private static String programOf(List<String> helpers, List<String> examples) {
        StringBuilder program = new StringBuilder("public final class ReadmeExamples {\n");
        for (String helper : helpers) {
            program.append(helper);
        }
        for (int k = 0; k < examples.size(); k++) {
            program.append("public static void example").append(k).append("() {\n");
            for (String line : examples.get(k).split("\n")) {
                program.append(checkOf(line)).append('\n');
            }
            program.append("}\n");
        }
        return program.append("}\n").toString();
    }

    /** A line with its answer held to what is shown; a call whose answer is not shown is refused. */
    private static String checkOf(String line) {
        Matcher m = SHOWN.matcher(line);
        if (!m.matches()) {
            if (line.startsWith("screens.") || line.contains("//")) {
                fail("no answer is shown: " + line);
            }
            return line;
        }
        callsShown.add(m.group(1));
        String call = "screens." + m.group(1) + "(" + m.group(2) + ")";
        return "ReadmeTest.due(\"" + call + "\", " + call + ", \"" + m.group(3) + "\");";
    }

    private static void run(String program) throws IOException, ReflectiveOperationException {
        Path place = Files.createTempDirectory("readme");
        try {
            Path source = Files.writeString(place.resolve("ReadmeExamples.java"), program);
            int failed = ToolProvider.getSystemJavaCompiler().run(null, null, null, "-Xlint:all", "-Werror", "-cp",
                    System.getProperty("java.class.path"), "-d", place.toString(), source.toString());
            if (failed != 0) {
                fail("the examples don't compile");
                return;
            }
            try (URLClassLoader loader = new URLClassLoader(new URL[] {place.toUri().toURL()})) {
                call(loader.loadClass("ReadmeExamples"));
            }
        } finally {
            clear(place);
        }
    }

    private static void call(Class<?> examples) throws ReflectiveOperationException {
        int called = 0;
        for (Method example : examples.getDeclaredMethods()) {
            if (example.getName().startsWith("example")) {
                int before = checks;
                try {
                    example.invoke(null);
                } catch (InvocationTargetException e) {
                    fail(example.getName() + " throws " + e.getCause());
                }
                called++;
                if (checks == before || checks - before > MOST_CALLS) {
                    fail(example.getName() + " shows " + (checks - before) + " answers");
                }
            }
        }
        if (called == 0) {
            fail("there are no examples");
        }
    }

    private static void clear(Path place) throws IOException {
        try (Stream<Path> files = Files.walk(place)) {
            files.sorted(Comparator.reverseOrder()).forEach(ReadmeTest::remove);
        }
    }

    private static void remove(Path file) {
        try {
            Files.delete(file);
        } catch (IOException e) {
            throw new UncheckedIOException(e);
        }
    }

    private static void everyCallIsShown() {
        for (Method method : BentScreens.class.getDeclaredMethods()) {
            boolean isPublic = java.lang.reflect.Modifier.isPublic(method.getModifiers());
            if (isPublic && !callsShown.contains(method.getName())) {
                fail("no example calls " + method.getName());
            }
        }
    }

    /** The command that runs the tests, and each test, no other. */
    private static void testsAreNamed(String page) throws IOException {
        Set<String> named = new TreeSet<>();
        Matcher m = Pattern.compile("`(\\w+Test)`").matcher(page);
        while (m.find()) {
            named.add(m.group(1));
        }
        Set<String> there = new TreeSet<>();
        try (Stream<Path> files = Files.list(TESTS)) {
            files.map(file -> file.getFileName().toString()).filter(name -> name.endsWith("Test.java"))
                    .forEach(name -> there.add(name.replace(".java", "")));
        }
        if (!named.equals(there)) {
            fail("the tests named are " + named + ", there are " + there);
        }
        if (!page.contains("```sh\n.ci/run\n```") || !Files.isExecutable(Path.of(".ci/run"))) {
            fail("the command that runs the tests is not named, or not there");
        }
    }
}

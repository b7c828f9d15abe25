import java.io.ByteArrayOutputStream;
import java.io.IOException;
import java.io.PrintStream;
import java.net.URL;
import java.net.URLClassLoader;
import java.nio.charset.StandardCharsets;
import java.nio.file.Files;
import java.nio.file.Path;
import java.util.Set;
import java.util.TreeSet;
import java.util.regex.Matcher;
import java.util.regex.Pattern;
import java.util.stream.Stream;
import javax.tools.ToolProvider;

/** What README.md shows: the example and what it prints, the calls, the answers below 0, the tests. */
public final class ReadmeTest {
    private static final Due DUE = new Due("ReadmeTest");
    private static final Path SOURCE = Path.of("src/main/java/OneNet.java");
    private static final Path BUILT = Path.of("build/example");

    public static void main(String[] args) throws IOException, ReflectiveOperationException {
        String page = Files.readString(Path.of("README.md"));
        example(page);
        calls(page);
        numbers(page);
        tests(page);
        DUE.end();
    }

    private static void same(String what, Object got, Object want) {
        boolean alike = got.equals(want);
        DUE.isTrue(what + (alike ? "" : ": " + got + " for " + want), alike);
    }

    private static Set<String> allOf(String text, String pattern) {
        Set<String> found = new TreeSet<>();
        Matcher next = Pattern.compile(pattern, Pattern.MULTILINE).matcher(text);
        while (next.find()) {
            found.add(next.group(1));
        }
        return found;
    }

    /** What stands in the first block of a language; nothing, if there is none. */
    private static String block(String page, String language) {
        Matcher found = Pattern.compile("^```" + language + "\n(.*?)^```$", Pattern.MULTILINE | Pattern.DOTALL).matcher(page);
        return found.find() ? found.group(1) : "";
    }

    private static void example(String page) throws IOException, ReflectiveOperationException {
        Files.createDirectories(BUILT);
        Path program = BUILT.resolve("Example.java");
        Files.writeString(program, block(page, "java"));
        int compiled = ToolProvider.getSystemJavaCompiler().run(null, null, null,
                "-d", BUILT.toString(), SOURCE.toString(), program.toString());
        DUE.is("the example compiles", compiled, 0);
        if (compiled == 0) {
            same("what the example prints", printed("Example"), block(page, "text"));
        }
        same("how it is compiled and run", block(page, "sh"),
                "javac -d " + BUILT + " " + SOURCE + " Example.java\njava -cp " + BUILT + " Example\n");
    }

    private static String printed(String program) throws IOException, ReflectiveOperationException {
        ByteArrayOutputStream kept = new ByteArrayOutputStream();
        PrintStream out = System.out;
        URL[] places = {BUILT.toUri().toURL()};
        try (URLClassLoader loader = new URLClassLoader(places, ClassLoader.getPlatformClassLoader())) {
            System.setOut(new PrintStream(kept, true, StandardCharsets.UTF_8));
            loader.loadClass(program).getMethod("main", String[].class).invoke(null, (Object) new String[0]);
        } finally {
            System.setOut(out);
        }
        return kept.toString(StandardCharsets.UTF_8).replace(System.lineSeparator(), "\n");
    }

    private static void calls(String page) throws IOException {
        Set<String> has = new TreeSet<>();
        for (String head : allOf(Files.readString(SOURCE), "^    public (?:int|long) (\\w+\\(.*\\)) \\{$")) {
            has.add(head.replaceAll("int ", ""));
        }
        DUE.is("calls", has.size(), 40);
        same("the calls told", allOf(page, "^\\| `(\\w+\\(.*?\\))` \\|"), has);
    }

    private static void numbers(String page) {
        same("the answers below 0 told", allOf(page, "^\\| (-\\d+)\\b"),
                new TreeSet<>(Set.of("-1", "-2", "-3", "-4", "-5", "-7", "-11", "-12", "-13", "-14", "-100")));
        DUE.isTrue("NONE", page.contains("| " + OneNet.NONE + " (`OneNet.NONE`)"));
        DUE.isTrue("BAD", page.contains("| " + OneNet.BAD + " (`OneNet.BAD`)"));
        DUE.isTrue("STATE", page.contains("| " + OneNet.STATE + " (`OneNet.STATE`)"));
        DUE.isTrue("FULL", page.contains("| " + OneNet.FULL + " (`OneNet.FULL`)"));
        DUE.isTrue("NO", page.contains("| `OneNet.NO` |"));
        DUE.isTrue("for how many calls", page.contains("512 calls"));
    }

    private static void tests(String page) throws IOException {
        Set<String> has = new TreeSet<>();
        try (Stream<Path> files = Files.list(Path.of("src/test/java"))) {
            files.map(file -> file.getFileName().toString()).filter(name -> name.endsWith("Test.java"))
                    .forEach(name -> has.add(name.replace(".java", "")));
        }
        same("the tests told", allOf(page, "^\\| `(\\w+Test)` \\|"), has);
        for (String script : allOf(page, "^    (src/test/run|\\.ci/run)$")) {
            DUE.isTrue(script + " can be run", Files.isExecutable(Path.of(script)));
        }
        DUE.is("scripts told", allOf(page, "^    (src/test/run|\\.ci/run)$").size(), 2);
    }
}

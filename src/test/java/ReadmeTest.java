import java.io.IOException;
import java.lang.reflect.Method;
import java.net.URL;
import java.net.URLClassLoader;
import java.nio.file.Files;
import java.nio.file.Path;
import java.util.Set;
import java.util.TreeSet;
import java.util.regex.Matcher;
import java.util.regex.Pattern;
import java.util.stream.Stream;
import javax.tools.ToolProvider;

/** README.md agrees with the class and the tests: its runs answer what stands behind them, its lists are whole. */
public final class ReadmeTest {
    private static final Path README = Path.of("README.md");
    private static final Path TESTS = Path.of("src/test/java");
    /** A call with what it answers behind it: {@code x.say(0);  // 1, the NODE}. */
    private static final Pattern TOLD = Pattern.compile("(?m)^(x\\.\\w+\\([^;]*\\));\\s*// (-?\\d+)\\b.*$");
    private static final Pattern CALL = Pattern.compile("(?m)^x\\.\\w+\\(");

    private static int wrong = 0;
    private static int runs = 0;

    /** What a run of the page calls, compiled apart from this class. */
    public static void due(String call, long got, long want) {
        if (got != want) report(call + " answers " + got + ", the page says " + want);
    }

    private static void report(String what) {
        wrong++;
        System.out.println(what);
    }

    public static void main(String[] args) throws IOException, ReflectiveOperationException {
        String page = Files.readString(README);
        Matcher block = Pattern.compile("(?s)```java\\n(.*?)```").matcher(page);
        while (block.find()) run(block.group(1));
        if (runs < 3) report("the page has " + runs + " runs");
        same("calls", names(section(page, "## The calls"), "`(\\w+)`"), calls());
        same("tests", names(section(page, "## How to run its tests"), "`(\\w+Test)`"), tests());
        System.out.println(wrong == 0 ? "the page agrees with the class, " + runs + " runs" : wrong + " things on the page are not so");
        if (wrong != 0) System.exit(1);
    }

    private static void run(String code) throws IOException, ReflectiveOperationException {
        runs++;
        if (TOLD.matcher(code).results().count() < 5) report("too few answers stand in a run:\n" + code);
        if (TOLD.matcher(code).results().count() + 1 < CALL.matcher(code).results().count()) report("calls without answers stand in a run:\n" + code);
        String name = "Run" + runs;
        String body = TOLD.matcher(code).replaceAll(m -> Matcher.quoteReplacement("ReadmeTest.due(\"" + m.group(1) + "\", " + m.group(1) + ", " + m.group(2) + ");"));
        Path room = Files.createTempDirectory("readme");
        Path file = room.resolve(name + ".java");
        Files.writeString(file, "public final class " + name + " {\n    public static void main(String[] args) {\n" + body + "    }\n}\n");
        int failed = ToolProvider.getSystemJavaCompiler().run(null, null, null, "-cp", System.getProperty("java.class.path"), "-d", room.toString(), file.toString());
        if (failed != 0) {
            report("a run on the page can't be compiled");
        } else {
            try (URLClassLoader loader = new URLClassLoader(new URL[] {room.toUri().toURL()}, ReadmeTest.class.getClassLoader())) {
                loader.loadClass(name).getMethod("main", String[].class).invoke(null, (Object) new String[0]);
            }
        }
        try (Stream<Path> made = Files.list(room)) {
            for (Path each : made.toList()) Files.delete(each);
        }
        Files.delete(room);
    }

    private static String section(String page, String title) {
        int start = page.indexOf("\n" + title + "\n");
        int end = page.indexOf("\n## ", start + 1);
        if (start < 0) report("the page has no part '" + title + "'");
        return page.substring(Math.max(start, 0), end < 0 ? page.length() : end);
    }

    private static Set<String> names(String text, String pattern) {
        Set<String> all = new TreeSet<>();
        Pattern.compile(pattern).matcher(text).results().forEach(m -> all.add(m.group(1)));
        return all;
    }

    private static Set<String> calls() {
        Set<String> all = new TreeSet<>();
        for (Method m : YearWord.class.getMethods()) {
            if (m.getDeclaringClass() == YearWord.class) all.add(m.getName());
        }
        return all;
    }

    private static Set<String> tests() throws IOException {
        Set<String> all = new TreeSet<>();
        try (Stream<Path> files = Files.list(TESTS)) {
            files.map(f -> f.getFileName().toString()).filter(f -> f.endsWith("Test.java")).forEach(f -> all.add(f.replace(".java", "")));
        }
        return all;
    }

    private static void same(String what, Set<String> told, Set<String> there) {
        if (!told.equals(there)) report(what + " on the page are " + told + ", there are " + there);
    }
}

import java.io.IOException;
import java.lang.reflect.Method;
import java.lang.reflect.Modifier;
import java.net.URL;
import java.net.URLClassLoader;
import java.nio.file.Files;
import java.nio.file.Path;
import java.util.List;
import java.util.regex.Matcher;
import java.util.regex.Pattern;
import java.util.stream.Stream;
import javax.tools.JavaCompiler;
import javax.tools.ToolProvider;

/** README.md holds: its example answers as it says, and it names every call and every test. */
public final class ReadmeTest {
    private static final Pattern CALL = Pattern.compile("(?:int (\\w+) = )?(x\\.\\w+\\(.*\\));\\s*// (-?\\d+)\\b.*");
    private static int wrong = 0;
    private static int looked = 0;

    public static void main(String[] args) throws Exception {
        String page = Files.readString(Path.of("README.md"));
        runExample(block(page, "java"));
        must(looked > 20, "only " + looked + " calls of the example were looked at");
        namesCalls(page);
        namesTests(page);
        System.out.println(wrong == 0 ? "README.md holds" : wrong + " things in README.md do not hold");
        System.exit(wrong == 0 ? 0 : 1);
    }

    private static void must(boolean holds, String what) {
        if (!holds) {
            wrong++;
            System.out.println(what);
        }
    }

    /** For the example, which another class loader has: so it is public. */
    public static void answers(String call, long got, long want) {
        looked++;
        must(got == want, call + " answered " + got + ", README.md says " + want);
    }

    private static String block(String page, String language) {
        int from = page.indexOf("```" + language + "\n");
        int start = page.indexOf('\n', from) + 1;
        int end = page.indexOf("\n```", start);
        must(from >= 0 && end > start, "README.md has no example");
        return from >= 0 && end > start ? page.substring(start, end) : "";
    }

    /** Each call with a number behind it becomes a check of that number. */
    private static String asChecks(String example) {
        StringBuilder s = new StringBuilder("public class Example { public static void main(String[] args) {\n");
        for (String line : example.split("\n")) {
            Matcher m = CALL.matcher(line);
            if (!m.matches()) {
                s.append(line).append('\n');
                continue;
            }
            String value = m.group(2);
            if (m.group(1) != null) {
                s.append("int ").append(m.group(1)).append(" = ").append(m.group(2)).append(";\n");
                value = m.group(1);
            }
            s.append("ReadmeTest.answers(\"").append(m.group(2)).append("\", ").append(value).append(", ")
                    .append(m.group(3)).append(");\n");
        }
        return s.append("} }\n").toString();
    }

    private static void runExample(String example) throws Exception {
        Path dir = Files.createTempDirectory("readme");
        Path source = dir.resolve("Example.java");
        Path made = dir.resolve("Example.class");
        Files.writeString(source, asChecks(example));
        JavaCompiler compiler = ToolProvider.getSystemJavaCompiler();
        int failed = compiler.run(null, null, null, "-cp", System.getProperty("java.class.path"), "-d", dir.toString(),
                source.toString());
        must(failed == 0, "the example does not compile");
        if (failed == 0) {
            try (URLClassLoader loader = new URLClassLoader(new URL[] {dir.toUri().toURL()})) {
                loader.loadClass("Example").getMethod("main", String[].class).invoke(null, (Object) new String[0]);
            }
        }
        Files.deleteIfExists(made);
        Files.deleteIfExists(source);
        Files.deleteIfExists(dir);
    }

    private static void namesCalls(String page) {
        for (Method method : PadRound.class.getDeclaredMethods()) {
            boolean open = Modifier.isPublic(method.getModifiers());
            must(!open || page.contains("`" + method.getName() + "`"), "README.md does not name " + method.getName());
        }
    }

    /** Every test that there is, and none that there is not. */
    private static void namesTests(String page) throws IOException {
        try (Stream<Path> files = Files.list(Path.of("src/test/java"))) {
            List<String> tests = files.map(Path::toString).filter(f -> f.endsWith("Test.java")).sorted().toList();
            for (String test : tests) {
                must(page.contains("`" + test + "`"), "README.md does not name " + test);
            }
        }
        Matcher m = Pattern.compile("src/[\\w/]+\\.java").matcher(page);
        while (m.find()) {
            must(Files.exists(Path.of(m.group())), "README.md names " + m.group() + ", which is not there");
        }
    }
}

import java.io.IOException;
import java.lang.reflect.Method;
import java.net.URL;
import java.net.URLClassLoader;
import java.nio.file.Files;
import java.nio.file.Path;
import java.util.ArrayList;
import java.util.List;
import java.util.TreeSet;
import java.util.regex.Matcher;
import java.util.regex.Pattern;
import java.util.stream.Stream;
import javax.tools.ToolProvider;

/**
 * README.md holds when it is run: its Java blocks are made into one program as they stand, and what
 * each call answers is compared with the number behind it.
 */
final class ReadmeTest {
    private static final Path README = Path.of("README.md");
    private static final Path TESTS = Path.of("src/test/java");
    private static final Pattern BLOCK = Pattern.compile("^```java\\n(.*?)^```$",
            Pattern.DOTALL | Pattern.MULTILINE);
    private static final Pattern ANSWER =
            Pattern.compile("\\w+ (\\w+) = [^/]+;\\s*// (-?\\d+|true|false)(: .*)?");
    private static final Pattern THROWN = Pattern.compile("([^/]+;)\\s*// throws (\\w+)(: .*)?");

    private final StringBuilder functions = new StringBuilder();
    private final StringBuilder calls = new StringBuilder();
    private final List<String> lines = new ArrayList<>();
    private final List<String> due = new ArrayList<>();

    public static void main(String[] args) throws Exception {
        String text = Files.readString(README);
        ReadmeTest readme = new ReadmeTest();
        Matcher block = BLOCK.matcher(text);
        while (block.find()) {
            readme.take(block.group(1));
        }
        readme.compare();
        everyMethodIsCalled(readme.calls.toString());
        everyTestIsNamed(text);
        Due.report();
    }

    private void take(String block) {
        if (block.startsWith("/**")) {
            functions.append(block);
            return;
        }
        for (String line : block.split("\n")) {
            takeCall(line);
        }
    }

    private void takeCall(String line) {
        Matcher answer = ANSWER.matcher(line);
        Matcher thrown = THROWN.matcher(line);
        if (answer.matches()) {
            calls.append(line).append("\ngot.add(\"\" + ").append(answer.group(1)).append(");\n");
            expect(line, answer.group(2));
        } else if (thrown.matches()) {
            calls.append("try {\n").append(thrown.group(1)).append("\ngot.add(\"no exception\");\n")
                    .append("} catch (RuntimeException e) {\n")
                    .append("got.add(e.getClass().getSimpleName());\n}\n");
            expect(line, thrown.group(2));
        } else {
            Due.is("an answer that cannot be compared: " + line, line.indexOf("//"), -1);
            calls.append(line).append('\n');
        }
    }

    private void expect(String line, String answer) {
        lines.add(line);
        due.add(answer);
    }

    private void compare() throws Exception {
        List<?> got = run();
        Due.is("answers in README.md", got.size(), due.size());
        Due.is("is there an example", got.isEmpty() ? 0 : 1, 1);
        for (int i = 0; i < Math.min(got.size(), due.size()); i++) {
            Due.is(lines.get(i) + " (" + got.get(i) + ")", got.get(i).equals(due.get(i)) ? 1 : 0, 1);
        }
    }

    private List<?> run() throws Exception {
        Path folder = Files.createTempDirectory("readme");
        Path source = folder.resolve("ReadmeExample.java");
        Path compiled = folder.resolve("ReadmeExample.class");
        try {
            Files.writeString(source, "public final class ReadmeExample {\n" + functions
                    + "public static java.util.List<String> answers() {\n"
                    + "java.util.List<String> got = new java.util.ArrayList<>();\n" + calls
                    + "return got;\n}\n}\n");
            int errors = ToolProvider.getSystemJavaCompiler().run(null, null, null, "-classpath",
                    System.getProperty("java.class.path"), "-d", folder.toString(),
                    source.toString());
            Due.is("javac of the example", errors, 0);
            return errors == 0 ? answers(folder) : List.of();
        } finally {
            Files.deleteIfExists(compiled);
            Files.deleteIfExists(source);
            Files.delete(folder);
        }
    }

    private static List<?> answers(Path folder) throws Exception {
        URL[] where = {folder.toUri().toURL()};
        try (URLClassLoader loader = new URLClassLoader(where, ReadmeTest.class.getClassLoader())) {
            Method method = loader.loadClass("ReadmeExample").getMethod("answers");
            return (List<?>) method.invoke(null);
        }
    }

    /** The functions call append and load; each other method is called in the example itself. */
    private static void everyMethodIsCalled(String calls) {
        for (Method method : TemperingLine.class.getMethods()) {
            String name = method.getName();
            if (method.getDeclaringClass() == TemperingLine.class && !name.equals("append")
                    && !name.equals("load")) {
                Due.is(name + " in README.md's example", calls.contains("." + name + "(") ? 1 : 0, 1);
            }
        }
    }

    private static void everyTestIsNamed(String text) throws IOException {
        TreeSet<String> named = new TreeSet<>();
        Matcher row = Pattern.compile("(?m)^\\| (\\w+Test) \\|").matcher(text);
        while (row.find()) {
            named.add(row.group(1));
        }
        TreeSet<String> there = new TreeSet<>();
        try (Stream<Path> files = Files.list(TESTS)) {
            files.map(file -> file.getFileName().toString())
                    .filter(name -> name.endsWith("Test.java"))
                    .forEach(name -> there.add(name.substring(0, name.length() - 5)));
        }
        Due.is("tests in README.md " + named + ", there are " + there,
                named.equals(there) ? 1 : 0, 1);
    }
}

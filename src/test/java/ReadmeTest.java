import java.io.IOException;
import java.io.UncheckedIOException;
import java.net.URL;
import java.net.URLClassLoader;
import java.nio.file.Files;
import java.nio.file.Path;
import java.util.ArrayList;
import java.util.Comparator;
import java.util.List;
import java.util.Set;
import java.util.TreeSet;
import java.util.regex.Matcher;
import java.util.regex.Pattern;
import java.util.stream.Stream;
import javax.tools.ToolProvider;

/**
 * Runs the examples of README.md: each is made a method of a class, in which every call is compared with
 * the answer that stands behind it.
 */
public final class ReadmeTest {
    private static final Pattern EXAMPLE = Pattern.compile("(?s)```java\n(.*?)```");
    private static final Pattern ANSWERED = Pattern.compile("(?:int (\\w+) = )?(x\\.(\\w+)\\(.*\\)); *// *(true|false|-?\\d+)(?::.*)?");
    private static final Set<String> UNANSWERED = Set.of("TruthScan x = new TruthScan();", "x.forget();", "");
    private static final Set<String> CALLS = Set.of("feed", "column", "add", "addText", "miss", "clear", "literal",
            "literalText", "step", "scan", "truth", "chosen", "known", "dictionary", "unknown", "can");

    private static final Set<String> shown = new TreeSet<>();
    private static int wrong = 0;

    public static void main(String[] args) throws Exception {
        String readme = Files.readString(Path.of("README.md"));
        runExamples(examplesOf(readme));
        for (String call : CALLS) {
            due("an example calls " + call, shown.contains(call));
        }
        namesEachTest(readme);
        due("it says what runs the tests", readme.contains("```sh\n.ci/run\n```"));
        due(".ci/run can be run", Files.isExecutable(Path.of(".ci/run")));
        System.out.println(wrong == 0 ? "README.md is as due" : wrong + " things in README.md are not as due");
        if (wrong != 0) {
            System.exit(1);
        }
    }

    private static void due(String what, boolean holds) {
        if (!holds) {
            wrong++;
            System.out.println("README.md, not so: " + what);
        }
    }

    /** The examples call this by name; a boolean comes as the text true or false, as numbers do. */
    public static void due(String call, String got, String want) {
        due(call + " answers " + want + ", but " + got, got.equals(want));
    }

    private static List<String> examplesOf(String readme) {
        List<String> examples = new ArrayList<>();
        Matcher found = EXAMPLE.matcher(readme);
        while (found.find()) {
            examples.add(found.group(1));
        }
        due("there are examples", !examples.isEmpty());
        return examples;
    }

    private static void runExamples(List<String> examples) throws Exception {
        StringBuilder source = new StringBuilder("public final class ReadmeExamples {\n");
        for (int i = 0; i < examples.size(); i++) {
            source.append("public static void example").append(i).append("() {\n");
            examples.get(i).lines().forEach(line -> source.append(checked(line.strip())).append('\n'));
            source.append("}\n");
        }
        source.append("}\n");
        Path folder = Files.createTempDirectory("readme");
        try {
            Class<?> made = compiled(folder, source.toString());
            for (int i = 0; made != null && i < examples.size(); i++) {
                made.getMethod("example" + i).invoke(null);
            }
        } finally {
            delete(folder);
        }
    }

    /** A line of an example, with what compares its answer. */
    private static String checked(String line) {
        Matcher answered = ANSWERED.matcher(line);
        if (!answered.matches()) {
            due("an answer stands behind: " + line, UNANSWERED.contains(line));
            return line;
        }
        shown.add(answered.group(3));
        String name = answered.group(1);
        String call = answered.group(2);
        String before = name == null ? "" : "int " + name + " = " + call + "; ";
        String got = name == null ? call : name;
        return before + "ReadmeTest.due(\"" + call + "\", String.valueOf(" + got + "), \"" + answered.group(4) + "\");";
    }

    private static Class<?> compiled(Path folder, String source) throws Exception {
        Path file = folder.resolve("ReadmeExamples.java");
        Files.writeString(file, source);
        int code = ToolProvider.getSystemJavaCompiler().run(null, null, null, "-d", folder.toString(),
                "-classpath", System.getProperty("java.class.path"), file.toString());
        due("the examples compile", code == 0);
        if (code != 0) {
            return null;
        }
        URLClassLoader loader = new URLClassLoader(new URL[] {folder.toUri().toURL()}, ReadmeTest.class.getClassLoader());
        return loader.loadClass("ReadmeExamples");
    }

    private static void namesEachTest(String readme) throws IOException {
        try (Stream<Path> tests = Files.list(Path.of("src/test/java"))) {
            tests.map(path -> path.getFileName().toString().replace(".java", ""))
                    .forEach(name -> due("it names " + name, readme.contains("- `" + name + "`")));
        }
    }

    private static void delete(Path folder) throws IOException {
        try (Stream<Path> files = Files.walk(folder)) {
            files.sorted(Comparator.reverseOrder()).forEach(path -> {
                try {
                    Files.delete(path);
                } catch (IOException e) {
                    throw new UncheckedIOException(e);
                }
            });
        }
    }
}

import java.io.IOException;
import java.lang.reflect.Field;
import java.lang.reflect.Method;
import java.lang.reflect.Modifier;
import java.net.URL;
import java.net.URLClassLoader;
import java.nio.file.DirectoryStream;
import java.nio.file.Files;
import java.nio.file.Path;
import java.nio.file.Paths;
import java.util.ArrayList;
import java.util.Collections;
import java.util.Comparator;
import java.util.List;
import java.util.regex.Matcher;
import java.util.regex.Pattern;
import java.util.stream.Collectors;
import java.util.stream.Stream;

/** README.md: its lines of Java answer what it says of them, and it leaves no call, constant or test out. */
public final class ReadmeTest {
    private static final Path README = Paths.get("README.md");
    private static final Path TESTS = Paths.get("src/test/java");
    /** A call by itself, and behind it what it answers: "x.ran(0);  // 4 STEPS". */
    private static final Pattern ANSWERED =
            Pattern.compile("^(\\w+\\..+);\\s+// (-?\\d+|SignedCore\\.\\w+)\\b.*$");
    private static final Pattern ROW = Pattern.compile("(?m)^\\| `(\\w+)\\(([^)]*)\\)` \\|");
    private static final Pattern CONSTANT = Pattern.compile("`(\\w+)` is (-?\\d+)");

    private ReadmeTest() {
    }

    public static void main(String[] args) throws Exception {
        String text = Files.readString(README);
        examples(text);
        calls(text);
        constants(text);
        tests(text);
        Check.finish();
    }

    private static void examples(String text) throws Exception {
        List<String> names = new ArrayList<>();
        String source = exampleSource(text, names);
        Path built = Files.createTempDirectory("readme");
        try {
            compile(source, built);
            List<int[]> pairs = answersOf(built);
            Check.due("lines that tell an answer", pairs.size(), names.size());
            for (int i = 0; i < names.size() && i < pairs.size(); i++) {
                Check.due(names.get(i), pairs.get(i)[0], pairs.get(i)[1]);
            }
        } finally {
            remove(built);
        }
        refusals(names);
    }

    /** A class whose method does the README's lines of Java and keeps what they answer and should answer. */
    private static String exampleSource(String text, List<String> names) {
        StringBuilder body = new StringBuilder();
        boolean inside = false;
        for (String line : text.split("\n")) {
            if (line.startsWith("```")) {
                inside = line.equals("```java");
                continue;
            }
            if (inside) {
                body.append(doing(line, names)).append('\n');
            }
        }
        return "public final class Example {\n"
                + "public static java.util.List<int[]> answers() {\n"
                + "java.util.List<int[]> answers = new java.util.ArrayList<>();\n"
                + body + "return answers;\n}\n}\n";
    }

    private static String doing(String line, List<String> names) {
        Matcher m = ANSWERED.matcher(line);
        if (!m.matches()) {
            Check.due("no answer is told behind: " + line, line.contains("//") ? 1 : 0, 0);
            return line;
        }
        names.add(m.group(1));
        return "answers.add(new int[] {" + m.group(1) + ", " + m.group(2) + "});";
    }

    /** By the javac that .ci/run has found, too: the java that runs this need not bring a compiler. */
    private static void compile(String source, Path built) throws Exception {
        Path file = built.resolve("Example.java");
        Files.writeString(file, source);
        Process javac = new ProcessBuilder("javac", "-d", built.toString(),
                "-cp", System.getProperty("java.class.path"), file.toString()).inheritIO().start();
        if (javac.waitFor() != 0) {
            throw new IllegalStateException("README.md's lines of Java do not compile");
        }
    }

    private static List<int[]> answersOf(Path built) throws Exception {
        try (URLClassLoader loader = new URLClassLoader(new URL[] {built.toUri().toURL()})) {
            List<int[]> pairs = new ArrayList<>();
            for (Object pair : (List<?>) loader.loadClass("Example").getMethod("answers").invoke(null)) {
                pairs.add((int[]) pair);
            }
            return pairs;
        }
    }

    private static void remove(Path built) throws IOException {
        try (Stream<Path> all = Files.walk(built)) {
            for (Path p : all.sorted(Comparator.reverseOrder()).collect(Collectors.toList())) {
                Files.delete(p);
            }
        }
    }

    /** Every call that can be refused stands among the lines on y. */
    private static void refusals(List<String> names) {
        for (String call : List.of("put", "core", "load", "told", "set", "switches", "type", "run", "ran",
                "point", "out", "value", "word", "reads")) {
            boolean shown = names.stream().anyMatch(n -> n.startsWith("y." + call + "("));
            Check.due("a refused " + call, shown ? 1 : 0, 1);
        }
    }

    private static void calls(String text) {
        List<String> told = new ArrayList<>();
        Matcher m = ROW.matcher(text);
        while (m.find()) {
            told.add(m.group(1) + " " + (m.group(2).isEmpty() ? 0 : m.group(2).split(",").length));
        }
        int there = 0;
        for (Method method : SignedCore.class.getDeclaredMethods()) {
            if (Modifier.isPublic(method.getModifiers())) {
                there++;
                String call = method.getName() + " " + method.getParameterCount();
                Check.due("a row for " + call, Collections.frequency(told, call), 1);
            }
        }
        Check.due("rows of calls", told.size(), there);
    }

    private static void constants(String text) throws IllegalAccessException {
        List<String> told = new ArrayList<>();
        Matcher m = CONSTANT.matcher(text);
        while (m.find()) {
            told.add(m.group(1) + " " + m.group(2));
        }
        for (Field f : SignedCore.class.getDeclaredFields()) {
            if (Modifier.isPublic(f.getModifiers())) {
                String constant = f.getName() + " " + f.getInt(null);
                Check.due("the constant " + constant, Collections.frequency(told, constant), 1);
            }
        }
    }

    private static void tests(String text) throws IOException {
        Check.due("how the tests are run", text.contains("    .ci/run\n") ? 1 : 0, 1);
        Check.due(".ci/run", Files.isExecutable(Paths.get(".ci/run")) ? 1 : 0, 1);
        try (DirectoryStream<Path> all = Files.newDirectoryStream(TESTS, "*Test.java")) {
            for (Path p : all) {
                String name = p.getFileName().toString().replace(".java", "");
                Check.due("a row for " + name, text.contains("\n| `" + name + "` |") ? 1 : 0, 1);
            }
        }
    }
}

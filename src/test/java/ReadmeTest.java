import java.io.IOException;
import java.lang.reflect.Method;
import java.net.URL;
import java.net.URLClassLoader;
import java.nio.file.Files;
import java.nio.file.Path;
import java.util.ArrayList;
import java.util.List;
import java.util.Set;
import java.util.TreeSet;
import java.util.regex.Matcher;
import java.util.regex.Pattern;
import java.util.stream.Stream;

/** README.md's example answers what stands behind its calls; its tables name the classes and tests that there are. */
public final class ReadmeTest {
    private static final Path README = Path.of("README.md");
    private static final Path TESTS = Path.of("src/test/java");
    private static final Pattern ANSWERED = Pattern.compile("(hands\\.\\w+\\(.*?\\)); +// (-?\\d+)\\b.*");
    private static final Pattern NAMED = Pattern.compile("`([A-Z]\\w*)`");

    private static final Check CHECK = new Check();

    private ReadmeTest() {
    }

    public static void main(String[] args) throws IOException, InterruptedException, ReflectiveOperationException {
        List<String> lines = Files.readAllLines(README);
        example(lines);
        tables(lines);
        CHECK.finish();
    }

    /** The example is compiled as it stands, but that the answers of its calls are kept. */
    private static void example(List<String> lines)
            throws IOException, InterruptedException, ReflectiveOperationException {
        List<String> calls = new ArrayList<>();
        List<Long> due = new ArrayList<>();
        StringBuilder code = new StringBuilder("public final class Example { public static long[] answers() {\n");
        StringBuilder answers = new StringBuilder();
        for (String line : lines.subList(lines.indexOf("    SlateHands hands = new SlateHands();"), lines.size())) {
            Matcher answered = ANSWERED.matcher(line.trim());
            if (!line.isEmpty() && !line.startsWith("    ")) {
                break;
            }
            if (answered.matches()) {
                code.append("long answer").append(calls.size()).append(" = ").append(answered.group(1)).append(";\n");
                answers.append("answer").append(calls.size()).append(", ");
                calls.add(answered.group(1));
                due.add(Long.parseLong(answered.group(2)));
            } else {
                code.append(line).append('\n');
            }
        }
        code.append("return new long[] {").append(answers).append("}; } }\n");
        long[] got = run(code.toString());
        CHECK.due("calls of the example", Math.min(5, calls.size()), 5);
        for (int i = 0; i < got.length; i++) {
            CHECK.due(calls.get(i), got[i], due.get(i));
        }
    }

    private static long[] run(String code) throws IOException, InterruptedException, ReflectiveOperationException {
        Path folder = Files.createTempDirectory("example");
        Path file = folder.resolve("Example.java");
        Files.writeString(file, code);
        String path = System.getProperty("java.class.path");
        ProcessBuilder javac = new ProcessBuilder("javac", "-d", folder.toString(), "-cp", path, file.toString());
        int failed = javac.inheritIO().start().waitFor();
        CHECK.due("the example does not compile", failed, 0);
        long[] got = {};
        if (failed == 0) {
            try (URLClassLoader loader = new URLClassLoader(new URL[] {folder.toUri().toURL()})) {
                Method answers = loader.loadClass("Example").getMethod("answers");
                got = (long[]) answers.invoke(null);
            }
            Files.delete(folder.resolve("Example.class"));
        }
        Files.delete(file);
        Files.delete(folder);
        return got;
    }

    private static void tables(List<String> lines) throws IOException {
        Set<String> named = new TreeSet<>();
        for (String line : lines) {
            Matcher names = NAMED.matcher(line);
            while (line.startsWith("|") && names.find()) {
                named.add(names.group(1));
            }
        }
        Set<String> there = new TreeSet<>();
        for (Class<?> inner : SlateHands.class.getDeclaredClasses()) {
            there.add(inner.getSimpleName());
        }
        try (Stream<Path> files = Files.list(TESTS)) {
            files.map(file -> file.getFileName().toString()).filter(name -> name.endsWith("Test.java"))
                    .forEach(name -> there.add(name.substring(0, name.length() - ".java".length())));
        }
        for (String name : there) {
            CHECK.due("README.md names " + name, named.contains(name) ? 1 : 0, 1);
        }
        for (String name : named) {
            // Model is no test, but what one is held against.
            CHECK.due(name + " is there", there.contains(name) || name.equals("Model") ? 1 : 0, 1);
        }
    }
}

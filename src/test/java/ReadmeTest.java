import java.io.IOException;
import java.lang.reflect.Method;
import java.lang.reflect.Modifier;
import java.nio.charset.StandardCharsets;
import java.nio.file.Files;
import java.nio.file.Path;
import java.util.List;
import java.util.stream.Collectors;
import java.util.stream.Stream;

/** README.md: its example answers what it says, and it names every call and every test; run it in the project's folder. */
public final class ReadmeTest {
    private static final Path README = Path.of("README.md");
    private static final Path TESTS = Path.of("src", "test", "java");
    private static final String BEGIN = "// The example begins.", END = "// The example ends.";
    private static final Due due = new Due("ReadmeTest");

    public static void main(String[] args) throws IOException {
        example();
        String readme = Files.readString(README, StandardCharsets.UTF_8);
        exampleIsThatOfReadme(readme);
        callsAreNamed(readme);
        testsAreNamed(readme);
        due.end();
    }

    private static void example() {
        // The example begins.
        SpinBench bench = new SpinBench(2);
        bench.add(-1, 3, 1);
        bench.table(0, 0, 4);
        for (int i = 0; i < 4; i++) {
            bench.set(0, i, i);
        }
        bench.round(4);
        bench.cycled(1, 0, 1, 0);
        bench.delay(3, 0, 1);
        bench.cycled(1, 0, 2, 0);
        bench.delay(3, 0, 1);
        bench.cycled(1, 0, 1, 0);
        bench.store(2, 1);
        bench.end();
        int steps = bench.run();
        int terms = bench.terms(2);
        long number = bench.number(2, 0);
        int product = bench.power(2, 0, -1);
        int cosines = bench.power(2, 0, 0);
        bench.drop(0);
        int refused = bench.run();
        int finding = bench.status();
        int done = bench.told(0);
        int begun = bench.told(1);
        // The example ends.
        due.is("steps", steps, 29);
        due.is("terms", terms, 1);
        due.is("number", number, 4);
        due.is("product", product, 3);
        due.is("cosines", cosines, 0);
        due.is("refused", refused, -1000011);
        due.is("finding", finding, 1);
        due.is("done", done, 1);
        due.is("begun", begun, 1);
        due.is("SHELF 2 after the finding", bench.number(2, 0), 4);
    }

    private static void exampleIsThatOfReadme(String readme) throws IOException {
        String own = Files.readString(TESTS.resolve("ReadmeTest.java"), StandardCharsets.UTF_8);
        String tried = between(own, "        " + BEGIN, "        " + END);
        String told = between(readme, "```java", "```");
        due.holds("README.md has the example that is tried here", bare(told).equals(bare(tried)) && !bare(told).isEmpty());
    }

    private static String between(String text, String begin, String end) {
        int from = text.indexOf(begin);
        int to = from < 0 ? -1 : text.indexOf(end, from + begin.length());
        return to < 0 ? "" : text.substring(from + begin.length(), to);
    }

    /** The lines without what is said about them. */
    private static List<String> bare(String code) {
        return code.lines().map(line -> line.replaceAll("//.*", "").strip()).filter(line -> !line.isEmpty())
                .collect(Collectors.toList());
    }

    private static void callsAreNamed(String readme) {
        for (Method method : SpinBench.class.getDeclaredMethods()) {
            if (Modifier.isPublic(method.getModifiers())) {
                due.holds("README.md names " + method.getName(), readme.contains("`" + method.getName() + "`"));
            }
        }
    }

    private static void testsAreNamed(String readme) throws IOException {
        try (Stream<Path> files = Files.list(TESTS)) {
            for (Path file : files.sorted().collect(Collectors.toList())) {
                String name = file.getFileName().toString().replace(".java", "");
                due.holds("README.md names " + name, readme.contains("`" + name + "`"));
            }
        }
    }
}

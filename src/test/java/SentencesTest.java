import java.io.IOException;
import java.nio.file.Files;
import java.nio.file.Path;
import java.util.List;
import java.util.Set;
import java.util.TreeSet;
import java.util.regex.Matcher;
import java.util.regex.Pattern;
import java.util.stream.Stream;

/** TESTS.md names tests that are there; and no test, whether it is named or not, is written but never called. */
public final class SentencesTest {
    private static final Due T = new Due();
    private static final Path TESTS = Path.of("src/test/java");

    public static void main(String[] args) throws IOException {
        namedTestsAreThere();
        everyPromiseIsNamed();
        everyTestIsCalled();
        T.end();
    }

    private static void namedTestsAreThere() throws IOException {
        String table = Files.readString(Path.of("TESTS.md"));
        Matcher named = Pattern.compile("`(\\w+Test)\\.(\\w+)`").matcher(table);
        int many = 0;
        while (named.find()) {
            String source = Files.readString(TESTS.resolve(named.group(1) + ".java"));
            T.due("is there: " + named.group(), source.contains("private static void " + named.group(2) + "()"));
            many++;
        }
        T.due("some are named", many > 0);
    }

    private static void everyPromiseIsNamed() throws IOException {
        List<String> rows = Files.readAllLines(Path.of("TESTS.md"));
        for (int promise = 1; promise <= 20; promise++) {
            String start = "| " + promise + ": ";
            T.due("promise " + promise, rows.stream().anyMatch(row -> row.startsWith(start)));
        }
    }

    private static void everyTestIsCalled() throws IOException {
        Set<Path> files = new TreeSet<>();
        try (Stream<Path> all = Files.list(TESTS)) {
            all.filter(file -> file.toString().endsWith("Test.java")).forEach(files::add);
        }
        for (Path file : files) {
            String source = Files.readString(file);
            Matcher test = Pattern.compile("private static void (\\w+)\\(\\)").matcher(source);
            while (test.find()) {
                boolean isCalled = Pattern.compile("(?m)^        " + test.group(1) + "\\(\\);$").matcher(source).find();
                T.due("is called: " + file.getFileName() + ", " + test.group(1), isCalled);
            }
        }
    }
}

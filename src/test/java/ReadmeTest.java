import java.io.IOException;
import java.lang.reflect.Method;
import java.lang.reflect.Modifier;
import java.net.URL;
import java.net.URLClassLoader;
import java.nio.file.Files;
import java.nio.file.Path;
import java.util.ArrayList;
import java.util.List;
import java.util.Map;
import java.util.Set;
import java.util.TreeMap;
import java.util.TreeSet;
import java.util.regex.Matcher;
import java.util.regex.Pattern;
import java.util.stream.Stream;
import javax.tools.ToolProvider;

/** What README.md says holds: its Java is compiled and run as it stands, and its tables are held against the class. */
public final class ReadmeTest {
    private static final Due T = new Due();
    private static final Pattern SHOWN =
            Pattern.compile("^(\\w+ (\\w+) = )?(.+);\\s+// (-?\\d+|true|false|NONE|UNKNOWN|OUTSIDE|STATE|FULL)(:.*)?$");
    private static final Pattern CALL = Pattern.compile("^\\w+\\.(\\w+)\\(.*");
    private static final Map<String, Long> NUMBERS = Map.of("NONE", -1L, "UNKNOWN", -101L, "OUTSIDE", -102L,
            "STATE", -103L, "FULL", -104L, "true", 1L, "false", 0L);
    /** Which refusals the document tells of each call, in its order. */
    private static final Map<String, List<String>> REFUSALS = Map.ofEntries(
            Map.entry("letter", List.of("OUTSIDE", "FULL")), Map.entry("blank", List.of()),
            Map.entry("fault", List.of()), Map.entry("station", List.of("STATE")),
            Map.entry("about", List.of("UNKNOWN", "OUTSIDE")), Map.entry("as", List.of("UNKNOWN", "OUTSIDE")),
            Map.entry("crime", List.of("UNKNOWN", "OUTSIDE")), Map.entry("confess", List.of("UNKNOWN", "STATE")),
            Map.entry("recant", List.of("UNKNOWN", "STATE")), Map.entry("alter", List.of("UNKNOWN", "STATE")),
            Map.entry("match", List.of("OUTSIDE", "STATE")), Map.entry("stitches", List.of("STATE")),
            Map.entry("tried", List.of("UNKNOWN", "FULL")), Map.entry("forget", List.of()),
            Map.entry("weeks", List.of("OUTSIDE", "STATE")), Map.entry("image", List.of("STATE")),
            Map.entry("restore", List.of("STATE")), Map.entry("count", List.of("OUTSIDE")),
            Map.entry("digest", List.of()));
    private static List<String> page;

    public static void main(String[] args) throws IOException, ReflectiveOperationException {
        page = Files.readAllLines(Path.of("README.md"));
        everyCallHasAnAnswer();
        shownAnswersAreGiven();
        everyCallIsShown();
        everyRefusalIsShown();
        tableTellsEveryCall();
        tableTellsEveryRefusal();
        tableOfNamesAndNumbers();
        tableOfKinds();
        tableOfTests();
        T.end();
    }

    // ---- the Java that is shown

    private static List<String> shownJava() {
        List<String> lines = new ArrayList<>();
        boolean isJava = false;
        for (String line : page) {
            if (line.startsWith("```")) isJava = line.equals("```java");
            else if (isJava) lines.add(line);
        }
        return lines;
    }

    private static List<Matcher> shownAnswers() {
        List<Matcher> shown = new ArrayList<>();
        for (String line : shownJava()) {
            Matcher matcher = SHOWN.matcher(line);
            if (matcher.matches()) shown.add(matcher);
        }
        return shown;
    }

    private static long wanted(Matcher shown) {
        Long named = NUMBERS.get(shown.group(4));
        return named == null ? Long.parseLong(shown.group(4)) : named;
    }

    /** No call stands there without what it answers: else it would be shown, and never looked at. */
    private static void everyCallHasAnAnswer() {
        for (String line : shownJava()) {
            boolean isAsked = CALL.matcher(line).matches() || line.startsWith("boolean ");
            if (isAsked) T.due("has an answer: " + line, SHOWN.matcher(line).matches());
        }
    }

    private static void shownAnswersAreGiven() throws IOException, ReflectiveOperationException {
        List<Long> answers = answersOf(program());
        List<Matcher> shown = shownAnswers();
        T.due("as many answers as are shown", answers.size(), shown.size());
        for (int i = 0; i < shown.size() && i < answers.size(); i++) {
            T.due("README.md: " + shown.get(i).group(), answers.get(i), wanted(shown.get(i)));
        }
    }

    /** All that is shown, in its order; each answer that stands behind a call is noted as it comes. */
    private static String program() {
        StringBuilder text = new StringBuilder("import java.util.*;\npublic final class Shown {\n"
                + "static long number(long it) { return it; }\n"
                + "static long number(boolean it) { return it ? 1 : 0; }\n"
                + "public static List<Long> answers() {\nList<Long> answers = new ArrayList<>();\n");
        for (String line : shownJava()) {
            Matcher shown = SHOWN.matcher(line);
            boolean isShown = shown.matches();
            boolean isKept = isShown && shown.group(1) != null;
            if (!isShown || isKept) text.append(line).append('\n');
            if (isShown) text.append("answers.add(number(").append(shown.group(isKept ? 2 : 3)).append("));\n");
        }
        return text.append("return answers;\n}\n}\n").toString();
    }

    @SuppressWarnings("unchecked")
    private static List<Long> answersOf(String program) throws IOException, ReflectiveOperationException {
        Path where = Files.createTempDirectory("readme");
        Path source = where.resolve("Shown.java");
        Path compiled = where.resolve("Shown.class");
        try {
            Files.writeString(source, program);
            int failed = ToolProvider.getSystemJavaCompiler().run(null, null, null, "-cp",
                    System.getProperty("java.class.path"), "-d", where.toString(), source.toString());
            T.due("README.md's Java compiles", failed, 0);
            if (failed != 0) return List.of();
            try (URLClassLoader loader = new URLClassLoader(new URL[] {where.toUri().toURL()})) {
                return (List<Long>) loader.loadClass("Shown").getMethod("answers").invoke(null);
            }
        } finally {
            Files.deleteIfExists(compiled);
            Files.deleteIfExists(source);
            Files.deleteIfExists(where);
        }
    }

    private static Set<String> face() {
        Set<String> names = new TreeSet<>();
        for (Method method : ConfessBySize.class.getDeclaredMethods()) {
            if (Modifier.isPublic(method.getModifiers())) names.add(method.getName());
        }
        return names;
    }

    /** Call by call, what is shown of it. */
    private static Map<String, Set<String>> shownOf() {
        Map<String, Set<String>> shown = new TreeMap<>();
        for (Matcher one : shownAnswers()) {
            Matcher call = CALL.matcher(one.group());
            if (!call.matches()) continue;
            shown.computeIfAbsent(call.group(1), name -> new TreeSet<>()).add(one.group(4));
        }
        return shown;
    }

    private static void everyCallIsShown() {
        Map<String, Set<String>> shown = shownOf();
        T.due("the calls that are shown: " + shown.keySet(), shown.keySet().equals(face()));
        for (String name : face()) {
            boolean isAnswered = false;
            for (String answer : shown.getOrDefault(name, Set.of())) {
                isAnswered |= answer.equals("NONE") || !NUMBERS.containsKey(answer);
            }
            T.due("an answer of " + name + " that is no refusal", isAnswered);
        }
    }

    private static void everyRefusalIsShown() {
        T.due("the calls of which refusals are told", REFUSALS.keySet().equals(face()));
        for (String name : face()) {
            Set<String> refusals = new TreeSet<>(shownOf().getOrDefault(name, Set.of()));
            refusals.retainAll(Set.of("UNKNOWN", "OUTSIDE", "STATE", "FULL"));
            T.due("refusals shown of " + name + ": " + refusals, refusals.equals(new TreeSet<>(REFUSALS.get(name))));
        }
    }

    // ---- the tables

    /** The rows below the one that starts so, as cells. */
    private static List<String[]> rowsBelow(String head) {
        List<String[]> rows = new ArrayList<>();
        boolean isBelow = false;
        for (String line : page) {
            if (!line.startsWith("|")) isBelow = false;
            else if (line.startsWith(head)) isBelow = true;
            else if (isBelow && !line.startsWith("| ---")) rows.add(line.substring(1, line.length() - 1).split("\\|"));
        }
        T.due("rows below " + head, !rows.isEmpty());
        return rows;
    }

    private static String nameIn(String cell) {
        Matcher name = Pattern.compile("`(\\w+)").matcher(cell);
        return name.find() ? name.group(1) : "";
    }

    private static void tableTellsEveryCall() {
        Set<String> told = new TreeSet<>();
        for (String[] row : rowsBelow("| Call |")) {
            T.due("three cells: " + row[0], row.length, 3);
            told.add(nameIn(row[0]));
        }
        T.due("the calls of the table: " + told, told.equals(face()));
    }

    /** A call's first row tells its refusals, in the order in which they come. */
    private static void tableTellsEveryRefusal() {
        Map<String, List<String>> told = new TreeMap<>();
        for (String[] row : rowsBelow("| Call |")) {
            List<String> refusals = told.computeIfAbsent(nameIn(row[0]), name -> new ArrayList<>());
            Matcher refusal = Pattern.compile("`(UNKNOWN|OUTSIDE|STATE|FULL)`").matcher(row[2]);
            while (refusal.find()) refusals.add(refusal.group(1));
        }
        for (String name : face()) {
            T.due("refusals told of " + name + ": " + told.get(name), REFUSALS.get(name).equals(told.get(name)));
        }
    }

    private static void tableOfNamesAndNumbers() throws IOException, ReflectiveOperationException {
        List<String[]> rows = rowsBelow("| Name |");
        T.due("names", rows.size(), 5);
        for (String[] row : rows) {
            String name = nameIn(row[0]);
            long number = Long.parseLong(row[1].strip());
            T.due("the document's number of " + name, NUMBERS.get(name), number);
            T.due("the class's number of " + name, ConfessBySize.class.getField(name).getInt(null), number);
        }
    }

    private static void tableOfKinds() {
        List<String[]> rows = rowsBelow("| Letter |");
        T.due("kinds", rows.size(), 5);
        for (String[] row : rows) {
            ConfessBySize x = Due.opened("m10," + nameIn(row[0]) + "10;101");
            T.due("number of the" + row[1], x.about(1, 0), Long.parseLong(row[2].strip()));
            T.due("how far off he bears, the" + row[1], x.about(1, 3), Long.parseLong(row[3].strip()));
        }
    }

    private static void tableOfTests() throws IOException {
        Set<String> told = new TreeSet<>();
        for (String[] row : rowsBelow("| Test |")) told.add(nameIn(row[0]));
        Set<String> found = new TreeSet<>();
        try (Stream<Path> files = Files.list(Path.of("src/test/java"))) {
            files.map(file -> file.getFileName().toString()).filter(name -> name.endsWith("Test.java"))
                    .forEach(name -> found.add(name.replace(".java", "")));
        }
        T.due("tests told: " + told, told.equals(found));
    }
}

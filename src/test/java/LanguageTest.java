import java.io.IOException;
import java.nio.file.Files;
import java.nio.file.Path;
import java.util.ArrayList;
import java.util.List;
import java.util.regex.Matcher;
import java.util.regex.Pattern;

/** What of ../shared/LANGUAGE.md the text of the class shows by itself: words that it rules out, long methods. */
public final class LanguageTest {
    private static final Due T = new Due();
    private static final Path SOURCE = Path.of("src/main/java/ConfessBySize.java");
    private static final String[] RULED_OUT = {"->", "::", "@", "\\bimport\\b", "\\bpackage\\b", "\\btry\\b",
        "\\bcatch\\b", "\\bfinally\\b", "\\bthrows?\\b", "\\bsynchronized\\b", "\\bassert\\b", "\\bvar\\b",
        "\\bprotected\\b", "\\bSystem\\.(?!arraycopy)", "\\bThread\\b", "\\w+Exact\\b", "\\b(equals|hashCode|toString)\\b",
        "\\bstatic \\{", "[^\\x00-\\x7f]"};

    public static void main(String[] args) throws IOException {
        List<String> lines = withoutComments(Files.readAllLines(SOURCE));
        for (String word : RULED_OUT) {
            Pattern pattern = Pattern.compile(word);
            for (String line : lines) T.due(word + " in: " + line, !pattern.matcher(line).find());
        }
        shortMethods(lines);
        T.end();
    }

    private static List<String> withoutComments(List<String> lines) {
        List<String> left = new ArrayList<>();
        for (String line : lines) {
            String text = line.strip();
            boolean isComment = text.startsWith("/*") || text.startsWith("*") || text.startsWith("//");
            if (!isComment) left.add(line);
        }
        return left;
    }

    private static void shortMethods(List<String> lines) {
        Pattern opens = Pattern.compile("^( {4}| {8})[^ }].*\\) \\{$");
        for (int first = 0; first < lines.size(); first++) {
            Matcher matcher = opens.matcher(lines.get(first));
            if (!matcher.find()) continue;
            String end = matcher.group(1) + "}";
            int last = first;
            while (last < lines.size() - 1 && !lines.get(last).equals(end)) last++;
            T.due("some sixty lines: " + lines.get(first), last - first <= 60);
        }
    }
}

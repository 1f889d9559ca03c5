import java.io.IOException;
import java.nio.file.Files;
import java.nio.file.Path;
import java.util.ArrayList;
import java.util.LinkedHashMap;
import java.util.List;
import java.util.Map;
import java.util.regex.MatchResult;
import java.util.regex.Matcher;
import java.util.regex.Pattern;
import java.util.stream.Collectors;

/** README.md: its example, its table of calls and its table of refusals; run from the project's root. */
public final class ReadmeTest {
    private static final Pattern TYPED = Pattern.compile("for \\(char c : \"([^\"]*)\"\\.toCharArray\\(\\)\\) x\\.type\\((\\d), c\\);");
    private static final Pattern ASKED = Pattern.compile("x\\.(\\w+\\([^)]*\\));\\s+// (-?\\d+):.*");
    private static final Pattern FACE_ROW = Pattern.compile("public (?:int|long) (\\w+)\\(([^)]*)\\);");
    private static final Pattern REFUSAL = Pattern.compile("\\b(BAD|NOT|FULL|NULL|INDEX|CAST|STORE|SIZE)\\b");
    private static final int CALLS = 35;

    private ReadmeTest() {
    }

    public static void main(String[] args) throws IOException {
        String readme = Files.readString(Path.of("README.md"));
        String document = Files.readString(Path.of("../shared/DOC.md"));
        example(part(readme, "```java", "```"));
        calls(rows(part(readme, "## Calls", "## Refusals")), document);
        refusals(rows(part(readme, "## Refusals", "## Tests")));
        Check.close("ReadmeTest");
    }

    private static void example(String block) {
        CheeseEar x = new CheeseEar();
        int asked = 0;
        for (String line : block.strip().split("\n")) {
            Matcher typed = TYPED.matcher(line);
            Matcher call = ASKED.matcher(line);
            if (typed.lookingAt()) {
                Check.typeAll(x, Integer.parseInt(typed.group(2)), typed.group(1));
            } else if (call.matches()) {
                Edge.due(x, call.group(1), Long.parseLong(call.group(2)));
                asked++;
            } else {
                Check.holds("a line of the example is understood: " + line, line.equals("CheeseEar x = new CheeseEar();"));
            }
        }
        Check.holds("the example asks something", asked > 0);
    }

    /** Each call stands in the table once, with the document's parameters and refusals, in the document's order. */
    private static void calls(List<String[]> rows, String document) {
        Map<String, String> told = new LinkedHashMap<>();
        for (String[] row : rows) {
            told.put(row[0].replace("`", ""), row.length > 2 ? row[2] : "");
        }
        List<String> due = new ArrayList<>();
        for (MatchResult call : all(FACE_ROW, part(document, "## The public face", "## Terms"))) {
            String shape = call.group(1) + "(" + call.group(2).replaceAll("(int|long) ", "") + ")";
            due.add(shape);
            String promise = part(document, ": " + call.group(1) + "\n", "\n## ");
            Check.holds("the refusals of " + shape + " are the document's", named(promise).equals(named(told.getOrDefault(shape, "?"))));
        }
        Check.due("calls of the face", due.size(), CALLS);
        Check.holds("the table has the calls of the face: " + told.keySet(), due.equals(new ArrayList<>(told.keySet())) && rows.size() == due.size());
    }

    private static void refusals(List<String[]> rows) {
        Map<String, Integer> told = new LinkedHashMap<>();
        for (String[] row : rows) {
            told.put(row[0], Integer.valueOf(row[1]));
        }
        Map<String, String> refused = Map.of("BAD", "at(30, 0, 0)", "NOT", "back(1)", "FULL", "knock(0, 0)", "NULL", "lose(0)",
            "INDEX", "put(1, 1, 5, 0)", "CAST", "put(1, 0, 0, 0)", "STORE", "copy(1, 0, 2, 0, 1)", "SIZE", "sheet(0, 0, -1)");
        Check.holds("the table has every refusal: " + told.keySet(), told.keySet().equals(refused.keySet()) && rows.size() == refused.size());
        for (Map.Entry<String, String> one : refused.entrySet()) {
            CheeseEar x = Edge.after(one.getKey().equals("FULL") ? Edge.full() : Edge.empty(), "sheet(1, 1, 5)", "sheet(2, 2, 5)");
            Edge.due(x, one.getValue(), told.getOrDefault(one.getKey(), 0));
        }
    }

    /** The cells of a table's rows, without its head. */
    private static List<String[]> rows(String part) {
        List<String> lines = part.lines().filter(line -> line.startsWith("|")).toList();
        return lines.stream().skip(2).map(line -> line.substring(1).strip().split("\\s*\\|\\s*")).toList();
    }

    private static String named(String text) {
        return all(REFUSAL, text).stream().map(MatchResult::group).collect(Collectors.joining(" "));
    }

    private static List<MatchResult> all(Pattern pattern, String text) {
        return pattern.matcher(text).results().toList();
    }

    private static String part(String text, String from, String to) {
        int start = text.indexOf(from);
        int end = start < 0 ? -1 : text.indexOf(to, start + from.length());
        Check.holds("there is a part from '" + from.strip() + "' to '" + to.strip() + "'", end >= 0);
        return end < 0 ? "" : text.substring(start + from.length(), end);
    }
}

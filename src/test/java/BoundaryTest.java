import java.io.IOException;
import java.lang.reflect.Method;
import java.nio.file.Files;
import java.nio.file.Path;
import java.util.ArrayList;
import java.util.Arrays;
import java.util.Comparator;
import java.util.List;
import java.util.Map;
import java.util.TreeMap;

/**
 * Every boundary case that the document names, each in a test of its own that names the promise and the sentence (Says);
 * and that these are the document's words, and leave no promise and no sentence on bounds out. Run from the project's root.
 */
public final class BoundaryTest {
    private static final int PROMISES = 36;
    private static final String DOCUMENT = "../shared/DOC.md";
    private static final Class<?>[] GROUPS = {TextEdges.class, MarkEdges.class, NightEdges.class, PlanEdges.class, ClueEdges.class,
        ChanceEdges.class, SheetEdges.class, TallyEdges.class};

    private final String terms;
    private final Map<Integer, String> promises = new TreeMap<>();
    private final List<Says> named = new ArrayList<>();

    private BoundaryTest(String document) {
        terms = words(part(document, "======== 1 WHEELS", "## The public face") + " " + part(document, "## Terms", "Ahead of the calls `type`"));
        for (int n = 1; n <= PROMISES; n++) {
            String section = part(document, "## Promise " + n + ":", n == PROMISES ? "## Not promised" : "## Promise " + (n + 1) + ":");
            promises.put(n, words(section.substring(section.indexOf("`: ") + 3)));
        }
    }

    public static void main(String[] args) throws IOException, ReflectiveOperationException {
        BoundaryTest test = new BoundaryTest(Files.readString(Path.of(DOCUMENT)));
        for (Class<?> group : GROUPS) {
            for (Method m : testsOf(group)) {
                test.run(m);
            }
        }
        test.everySentenceIsNamed();
        Check.close("BoundaryTest, " + test.named.size() + " boundary cases");
    }

    private static List<Method> testsOf(Class<?> group) {
        return Arrays.stream(group.getDeclaredMethods()).filter(m -> m.isAnnotationPresent(Says.class))
            .sorted(Comparator.comparing((Method m) -> m.getAnnotation(Says.class).promise()).thenComparing(Method::getName)).toList();
    }

    private void run(Method m) throws ReflectiveOperationException {
        Says says = m.getAnnotation(Says.class);
        named.add(says);
        Check.under(m.getName() + ", promise " + says.promise() + ", '" + says.value() + "': ");
        String said = words(says.value());
        Check.holds("the document says so", terms.contains(said) || promises.get(says.promise()).contains(said));
        int before = Check.soFar();
        m.invoke(null);
        Check.holds("something is asked", Check.soFar() > before);
        Check.under("");
    }

    /** Each sentence of a promise is named by a test of that promise, each sentence of the terms by any. */
    private void everySentenceIsNamed() {
        for (int n = 1; n <= PROMISES; n++) {
            for (String sentence : sentences(promises.get(n))) {
                int number = n;
                Check.holds("a test of promise " + n + " names '" + sentence + "'",
                    named.stream().anyMatch(s -> s.promise() == number && overlaps(words(s.value()), sentence)));
            }
        }
        for (String sentence : sentences(terms)) {
            Check.holds("a test names '" + sentence + "'", named.stream().anyMatch(s -> overlaps(words(s.value()), sentence)));
        }
    }

    private static boolean overlaps(String said, String sentence) {
        return said.contains(sentence) || sentence.contains(said);
    }

    private static String part(String document, String from, String to) {
        int start = document.indexOf(from);
        int end = start < 0 ? -1 : document.indexOf(to, start);
        Check.holds("the document has a part from '" + from + "' to '" + to + "'", end >= 0);
        return end < 0 ? "`: " : document.substring(start, end);
    }

    /** Without the marks of the page, and with single spaces. */
    private static String words(String text) {
        return text.replaceAll("={8} \\d|## Terms|```text|```", " ").replaceAll("\\s+", " ").trim();
    }

    /** Split behind a full stop; the two points of 0 .. 3 are none. */
    private static List<String> sentences(String text) {
        return List.of(text.split("(?<=[^.]\\.) "));
    }
}

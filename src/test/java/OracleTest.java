import java.lang.reflect.InvocationTargetException;
import java.lang.reflect.Method;
import java.util.ArrayList;
import java.util.Arrays;
import java.util.Comparator;
import java.util.List;
import java.util.Random;

/** Runs of up to 512 calls by chance (told seeds), each answer held against the oracle's. */
public final class OracleTest {
    private static final String LETTERS = "abcdefgh";

    private final Random chance;
    private final int run;
    private final CheeseEar x = new CheeseEar();
    private final Oracle oracle = new Oracle();
    private final List<String> calls = new ArrayList<>();

    private OracleTest(int run) {
        this.run = run;
        this.chance = new Random(1000L + run);
    }

    public static void main(String[] args) throws ReflectiveOperationException {
        int runs = args.length > 0 ? Integer.parseInt(args[0]) : 150;
        int first = args.length > 1 ? Integer.parseInt(args[1]) : 0;
        for (int run = first; run < first + runs && Check.wrongSoFar() == 0; run++) {
            new OracleTest(run).go();
        }
        Check.close("OracleTest");
    }

    private void go() throws ReflectiveOperationException {
        Method[] face = Arrays.stream(CheeseEar.class.getDeclaredMethods())
            .filter(m -> java.lang.reflect.Modifier.isPublic(m.getModifiers()))
            .sorted(Comparator.comparing(Method::getName)).toArray(Method[]::new);
        int most = 60 + chance.nextInt(452);
        typeWell();
        if (chance.nextInt(3) > 0) both("set", 0, 1 + chance.nextInt(20));
        if (chance.nextInt(3) > 0) both("set", 1, chance.nextInt(9));
        while (calls.size() < most && Check.wrongSoFar() == 0) {
            int kind = chance.nextInt(40);
            if (kind == 0) retype();
            else if (kind <= 3) hearTruly();
            else oneCall(face[chance.nextInt(face.length)]);
        }
    }

    /** Wheels and a cave that are well, mostly. */
    private void typeWell() throws ReflectiveOperationException {
        int wheels = chance.nextInt(9);
        StringBuilder text = new StringBuilder();
        for (int w = 0; w < wheels; w++) {
            text.append(w == 0 ? "" : ";").append("hsb".charAt(chance.nextInt(3)));
            int night = chance.nextBoolean() ? chance.nextInt(20) : chance.nextInt(5);
            text.append(night / 10).append(night % 10);
            for (int sounds = 1 + chance.nextInt(5); sounds > 0; sounds--) text.append(LETTERS.charAt(chance.nextInt(8)));
        }
        for (int i = 0; i < text.length(); i++) both("type", 0, text.charAt(i));
        int warmest = 1 + chance.nextInt(10);
        boolean sparse = chance.nextInt(3) == 0;
        for (int figures = chance.nextInt(31); figures > 0; figures--) {
            both("type", 1, '0' + (sparse && chance.nextInt(3) > 0 ? 0 : chance.nextInt(warmest)));
        }
    }

    private void retype() throws ReflectiveOperationException {
        both("wipe", 0);
        both("wipe", 1);
        typeWell();
    }

    /** Listens to what is so, or to what was so without a turning, so that clues have answers. */
    private void hearTruly() throws ReflectiveOperationException {
        if (oracle.count(0) == 0) return;
        int night = chance.nextInt(30);
        int wheel = chance.nextInt(oracle.count(0));
        int heard = oracle.at(night, wheel, 1);
        both("listen", night, wheel, heard == -1 ? 8 : heard);
        both("was", wheel, 0);
        both("was", wheel, 1);
        both("ask", wheel);
        both("never");
    }

    private void oneCall(Method m) throws ReflectiveOperationException {
        // what is dear in the oracle, or ends all that is there, comes seldom
        int seldom = switch (m.getName()) {
            case "digest" -> 12;
            case "wipe", "undo" -> 10;
            case "type", "lose", "forget", "set" -> 4;
            case "frost" -> 3;
            default -> 1;
        };
        if (chance.nextInt(seldom) != 0) return;
        int[] arguments = new int[m.getParameterCount()];
        for (int i = 0; i < arguments.length; i++) arguments[i] = argument(m.getName(), i);
        both(m.getName(), arguments);
    }

    /** A number as told for the place, or now and then one just beyond it or far off. */
    private int argument(String name, int i) {
        int n = chance.nextInt(60);
        if (n == 0) return chance.nextInt();
        if (n == 1) return Check.WRONG_INTS[chance.nextInt(Check.WRONG_INTS.length)];
        int[] range = range(name, i);
        if (n == 2) return range[0] - 1;
        if (n == 3) return range[1] + 1;
        return range[0] + chance.nextInt(range[1] - range[0] + 1);
    }

    private int[] range(String name, int i) {
        int wheels = Math.max(oracle.count(0) - 1, 0);
        int[] night = {0, 29};
        int[] wheel = {0, wheels};
        int[] two = {0, 1};
        int[] sheet = {0, 3};
        int[] form = {0, 2};
        int[] item = {0, 12};
        int[][] ranges = switch (name) {
            case "type" -> new int[][] {two, {"hsb;0159acfgh".charAt(chance.nextInt(13)), 255}};
            case "wipe", "undo", "fault", "back", "scream" -> new int[][] {two};
            case "wheel" -> new int[][] {wheel, {0, 7}};
            case "warm" -> new int[][] {night};
            case "set" -> new int[][] {two, {0, 20}};
            case "turning", "knock" -> new int[][] {{0, chance.nextBoolean() ? 10 : 29}, {0, 7}};
            case "read", "lose" -> new int[][] {sheet};
            case "at" -> new int[][] {night, wheel, {0, 2}};
            case "longs", "ask" -> new int[][] {wheel};
            case "chord" -> new int[][] {{0, 7}, two};
            case "ripe" -> new int[][] {wheel, night, {-1, 1}};
            case "cold", "come", "was" -> new int[][] {wheel, two};
            case "listen" -> new int[][] {night, {0, 7}, {0, 8}};
            case "frost" -> new int[][] {{0, 16}, {0, 9}, wheel, {0, chance.nextBoolean() ? 10 : 29}, two};
            case "summer" -> new int[][] {{-1000000, 1000000}, {0, 30}, two};
            case "sheet" -> new int[][] {sheet, form, {0, chance.nextBoolean() ? 12 : 60}};
            case "put" -> new int[][] {sheet, form, item, {0, chance.nextBoolean() ? 7 : 70000}};
            case "get" -> new int[][] {sheet, form, item};
            case "copy" -> new int[][] {sheet, item, sheet, item, {0, 8}};
            case "write" -> new int[][] {wheel, sheet};
            case "count" -> new int[][] {{0, 8}};
            default -> new int[][] {};
        };
        return ranges[i];
    }

    private void both(String name, int... arguments) throws ReflectiveOperationException {
        if (calls.size() >= 512) return;
        String call = name + Arrays.toString(arguments);
        calls.add(call);
        long want = answer(oracle, Oracle.class, name, arguments);
        long got = answer(x, CheeseEar.class, name, arguments);
        if (got != want) System.out.println("run " + run + ": " + calls);
        Check.due("run " + run + ", call " + calls.size() + ": " + call, got, want);
    }

    private static long answer(Object on, Class<?> of, String name, int[] arguments) throws ReflectiveOperationException {
        Class<?>[] kinds = new Class<?>[arguments.length];
        Object[] boxed = new Object[arguments.length];
        for (int i = 0; i < arguments.length; i++) {
            kinds[i] = int.class;
            boxed[i] = arguments[i];
        }
        Method m = of.getDeclaredMethod(name, kinds);
        try {
            return ((Number) m.invoke(on, boxed)).longValue();
        } catch (InvocationTargetException e) {
            throw new IllegalStateException(name + Arrays.toString(arguments) + " threw", e.getCause());
        }
    }
}

import java.lang.reflect.InvocationTargetException;
import java.lang.reflect.Method;
import java.util.ArrayList;
import java.util.Arrays;
import java.util.List;
import java.util.function.Supplier;

/** Calls written as the document writes them, and what a refused one must leave as it was. */
final class Edge {
    static final int NONE = CheeseEar.NONE, BAD = CheeseEar.BAD, NOT = CheeseEar.NOT, FULL = CheeseEar.FULL;
    static final int NULL = Check.NULL, INDEX = Check.INDEX, CAST = Check.CAST, STORE = Check.STORE, SIZE = Check.SIZE;
    static final int LEAST_INT = Check.LEAST_INT;
    static final String LONGEST = "h00abcde;s01bcdef;b02cdefg;h03defgh;s04efgha;b05fghab;h06ghabc;s07habcd";
    static final String EIGHT_SHORT = "h00a;s01b;b02c;h03d;s04e;b05f;h06g;s07h";
    static final String THIRTY = "372918465092837465910283746591";
    static final String NO_WARMTH = "000000000000000000000000000000";
    /** The finding that a lived object has had last, so that a refusal without a finding is seen to leave it. */
    static final int LIVED_FINDING = 4;

    private static final Method[] FACE = CheeseEar.class.getDeclaredMethods();

    private Edge() {
    }

    /** An answer to a call such as "at(29, 7, 0)". */
    static long answer(CheeseEar x, String call) {
        String name = call.substring(0, call.indexOf('('));
        String inside = call.substring(call.indexOf('(') + 1, call.length() - 1).trim();
        Object[] arguments = inside.isEmpty() ? new Object[0] : Arrays.stream(inside.split(",")).map(a -> Integer.valueOf(a.trim())).toArray();
        for (Method m : FACE) {
            if (m.getName().equals(name) && m.getParameterCount() == arguments.length) {
                try {
                    return ((Number) m.invoke(x, arguments)).longValue();
                } catch (InvocationTargetException e) {
                    throw new IllegalStateException(call + " threw", e.getCause());
                } catch (IllegalAccessException e) {
                    throw new IllegalStateException(call, e);
                }
            }
        }
        throw new IllegalArgumentException("no such call: " + call);
    }

    static void due(CheeseEar x, String call, long want) {
        Check.due(call, answer(x, call), want);
    }

    /** Makes calls whose answers are of no matter here. */
    static CheeseEar after(CheeseEar x, String... calls) {
        for (String call : calls) {
            answer(x, call);
        }
        return x;
    }

    static CheeseEar ear(String wheels, String cave, String... calls) {
        return after(Check.ear(wheels, cave), calls);
    }

    /** The answers from night 0 on. */
    static void rowDue(CheeseEar x, int wheel, int what, int... want) {
        for (int night = 0; night < want.length; night++) {
            due(x, "at(" + night + ", " + wheel + ", " + what + ")", want[night]);
        }
    }

    /** Something of everything: three wheels, a cave, turnings, knocks, listened, three sheets and a lost one, a finding. */
    static CheeseEar lived() {
        return ear("h00abh;s02bch;b01ha", "739105", "set(0, 9)", "set(1, 6)", "turning(1, 0)", "turning(3, 1)", "knock(2, 2)", "knock(4, 1)",
            "listen(0, 0, 0)", "sheet(0, 0, 3)", "put(0, 0, 0, 5)", "put(0, 0, 1, 1)", "put(0, 0, 2, -9)", "sheet(1, 1, 2)", "put(1, 1, 1, 700)",
            "sheet(2, 2, 4)", "put(2, 2, 3, 70000)", "copy(0, 0, 1, 0, 1)");
    }

    /** All that may be full is full. */
    static CheeseEar full() {
        CheeseEar x = ear(LONGEST, THIRTY, "copy(0, 0, 0, 0, 0)");
        for (int i = 0; i < 8; i++) {
            after(x, "turning(" + 3 * i + ", " + i + ")", "listen(0, 0, 0)");
        }
        return after(x, "knock(0, 0)", "knock(5, 1)", "knock(6, 2)", "knock(29, 7)");
    }

    static CheeseEar empty() {
        return new CheeseEar();
    }

    /** A call that is refused: its answer, and that it changes nothing; count() 8 but by a finding. */
    static void refused(Supplier<CheeseEar> made, String call, long want) {
        boolean found = want <= NULL && want >= SIZE;
        refused(made, call, want, found ? (int) (-10 - want) : answer(made.get(), "count(8)"));
    }

    static void refused(Supplier<CheeseEar> made, String call, long want, long finding) {
        CheeseEar x = made.get();
        due(x, call, want);
        Check.due("behind " + call + " count(8)", answer(x, "count(8)"), finding);
        Check.holds(call + " changes nothing", portrait(x).equals(portrait(made.get())));
    }

    static void allRefused(Supplier<CheeseEar> made, long want, String... calls) {
        for (String call : calls) {
            refused(made, call, want);
        }
    }

    /** Refuses each of the numbers that are far from everything in the place of a ?. */
    static void farRefused(Supplier<CheeseEar> made, String call, long want) {
        for (int far : Check.WRONG_INTS) {
            refused(made, call.replace("?", Integer.toString(far)), want);
        }
    }

    /** All that can be asked of an object but count() 8; taking it down to nothing tells what lies below. */
    private static List<Long> portrait(CheeseEar x) {
        List<Long> row = new ArrayList<>();
        note(row, x, "digest()");
        for (int s = 0; s <= 3; s++) {
            for (int form = 0; form <= 2; form++) {
                for (int i = 0; i <= 4; i++) {
                    note(row, x, "get(" + s + ", " + form + ", " + i + ")");
                }
            }
            note(row, x, "lose(" + s + ")");
        }
        for (int night = 0; night < 30; night++) {
            note(row, x, "warm(" + night + ")");
            for (int w = 0; w < 3; w++) {
                note(row, x, "at(" + night + ", " + w + ", 0)");
            }
        }
        for (int i = 0; i <= 8; i++) {
            note(row, x, "back(0)");
            note(row, x, "back(1)");
            note(row, x, "never()");
            note(row, x, "hush()");
        }
        note(row, x, "forget()");
        note(row, x, "digest()");
        note(row, x, "set(0, 8)");
        note(row, x, "set(1, 7)");
        for (int i = 0; i < 31; i++) {
            note(row, x, "undo(0)");
            note(row, x, "undo(1)");
            note(row, x, "fault(0)");
        }
        return row;
    }

    private static void note(List<Long> row, CheeseEar x, String call) {
        row.add(answer(x, call));
    }
}

import java.math.BigInteger;
import java.util.ArrayList;
import java.util.List;
import java.util.function.Supplier;

/** Boundary cases of promises 35 and 36: the counts, findings among them, and the digest. */
final class TallyEdges {
    private TallyEdges() {
    }

    private static void countsDue(CheeseEar x, int... want) {
        for (int what = 0; what < want.length; what++) {
            Edge.due(x, "count(" + what + ")", want[what]);
        }
    }

    // ---- 35: count

    @Says(promise = 35, value = "0 WHEELS, 1 figures of THE CAVE, 2, 3 bytes of texts, 4 TURNINGS, 5 KNOCKS, 6 WHEELS that are EATEN, 7 LISTENED")
    static void countsFromNothingToFull() {
        countsDue(Edge.empty(), 0, 0, 0, 0, 0, 0, 0, 0, 0);
        CheeseEar x = Edge.full();
        countsDue(x, 8, 30, 71, 30, 8, 4);
        countsDue(Edge.after(x, "back(0)", "back(1)", "undo(0)", "undo(1)"), 8, 29, 70, 29, 7, 3);
        // each sound screams: the hard and the soft ones are eaten on their first night, two blue ones are not
        countsDue(Edge.after(Edge.full(), "set(1, 0)"), 8, 30, 71, 30, 8, 4, 6, 8, 1);
    }

    @Says(promise = 35, value = "6 WHEELS that are EATEN")
    static void eatenFromNoneToEight() {
        for (int many = 1; many <= 8; many++) {
            String wheels = "s00h;".repeat(many - 1) + "s00h";
            Edge.due(Edge.ear(wheels, ""), "count(6)", many);
            Edge.due(Edge.ear(wheels, "", "set(1, 8)"), "count(6)", 0);
            Edge.due(Edge.ear(wheels, "9"), "count(6)", 0);
            Edge.due(Edge.ear(wheels.replace('s', 'b'), ""), "count(6)", 0);
        }
        // on night 29, and not by then
        Edge.due(Edge.ear("s19ah", Edge.NO_WARMTH.substring(1) + "9"), "count(6)", 1);
        Edge.due(Edge.ear("s19ah", Edge.NO_WARMTH.substring(1) + "5"), "count(6)", 0);
    }

    @Says(promise = 35, value = "With a FAULT a text is as if it was empty.")
    static void countsWithFaults() {
        countsDue(Edge.ear("s00h;", "12x", "turning(0, 0)"), 0, 0, 5, 3, 1, 0, 0, 0, 0);
        countsDue(Edge.ear("s00h", "12x"), 1, 0, 4, 3, 0, 0, 1, 0, 0);
        countsDue(Edge.ear("s00h;", "12"), 0, 2, 5, 2, 0, 0, 0, 0, 0);
    }

    @Says(promise = 35, value = "8 the number of the latest FINDING (0 before any).")
    static void theLatestFinding() {
        CheeseEar x = Edge.ear("h00a", "", "sheet(0, 0, 1)", "sheet(1, 1, 1)");
        Edge.due(x, "count(8)", 0);
        // refusals that are no findings leave it
        Edge.after(x, "type(2, 0)", "undo(1)", "back(0)", "sheet(0, 0, 61)", "get(4, 0, 0)", "warm(30)");
        Edge.due(x, "count(8)", 0);
        Edge.due(Edge.after(x, "lose(3)"), "count(8)", 1);
        Edge.due(Edge.after(x, "put(0, 0, 1, 1)"), "count(8)", 2);
        Edge.due(Edge.after(x, "put(0, 1, 0, 1)"), "count(8)", 3);
        Edge.due(Edge.after(x, "copy(0, 0, 1, 0, 1)"), "count(8)", 4);
        Edge.due(Edge.after(x, "sheet(0, 0, -1)"), "count(8)", 5);
        // the latest, not the greatest; and what goes well leaves it
        Edge.due(Edge.after(x, "lose(3)", "put(0, 0, 0, 1)", "count(9)", "digest()"), "count(8)", 1);
    }

    @Says(promise = 35, value = "FINDINGS (answers -10 less the number; they change nothing but count() 8)")
    static void theNumbersOfFindings() {
        String[] calls = {"lose(3)", "put(0, 0, 3, 1)", "put(0, 1, 0, 1)", "copy(0, 0, 1, 0, 1)", "sheet(0, 0, -1)"};
        for (int i = 0; i < calls.length; i++) {
            Edge.refused(Edge::lived, calls[i], -10 - (i + 1), i + 1);
        }
    }

    @Says(promise = 35, value = "1 NULL: the SHEET is LOST; 2 INDEX: there is no such item; 3 CAST: it has another FORM; 4 STORE: unlike FORMS; 5 SIZE: below 0.")
    static void findingsOfEachCall() {
        String[][] calls = {
            {"read(3)", "lose(3)", "put(3, 0, 0, 0)", "get(3, 0, 0)", "copy(3, 0, 0, 0, 0)", "copy(0, 0, 3, 0, 0)", "write(0, 3)"},
            {"put(0, 0, 3, 0)", "get(0, 0, 3)", "copy(0, 3, 0, 0, 1)", "copy(0, 0, 0, 3, 1)"},
            {"put(0, 1, 0, 0)", "get(0, 1, 0)"},
            {"copy(0, 0, 1, 0, 1)"},
            {"sheet(3, 0, -1)"}};
        for (int i = 0; i < calls.length; i++) {
            for (String call : calls[i]) {
                boolean isGet = call.startsWith("get");
                Edge.refused(Edge::lived, call, isGet ? Edge.LEAST_INT : -11 - i, i + 1);
            }
        }
    }

    @Says(promise = 35, value = "They change nothing (FINDINGS but count() 8).")
    static void aRowOfRefusalsChangesNothing() {
        CheeseEar x = Edge.full();
        long before = Edge.answer(x, "digest()");
        Edge.after(x, "type(0, 59)", "type(2, 0)", "wipe(2)", "undo(2)", "set(0, 0)", "set(1, 9)", "turning(0, 0)", "knock(0, 0)", "back(2)", "read(0)",
            "listen(0, 0, 0)", "sheet(0, 0, -1)", "sheet(0, 0, 61)", "lose(0)", "put(0, 0, 0, 0)", "copy(0, 0, 1, 0, 0)", "write(0, 0)");
        Edge.due(x, "digest()", before);
        countsDue(x, 8, 30, 71, 30, 8, 4);
    }

    @Says(promise = 35, value = "BAD.")
    static void countRefuses() {
        Edge.allRefused(Edge::lived, Edge.BAD, "count(-1)", "count(9)");
        Edge.allRefused(Edge::empty, Edge.BAD, "count(-1)", "count(9)");
        Edge.farRefused(Edge::lived, "count(?)", Edge.BAD);
    }

    // ---- 36: digest

    /** All that goes into a digest, by the calls that the document names. */
    private static List<Long> parts(CheeseEar x) {
        List<String> calls = new ArrayList<>();
        for (int what = 0; what <= 7; what++) calls.add("count(" + what + ")");
        for (int text = 0; text <= 1; text++) calls.add("fault(" + text + ")");
        for (int night : new int[] {0, 9, 19, 29}) calls.add("warm(" + night + ")");
        for (int w = 0; w < x.count(0); w++) {
            for (int what = 0; what <= 7; what++) calls.add("wheel(" + w + ", " + what + ")");
            for (int night : new int[] {0, 5, 12, 29}) {
                for (int what = 0; what <= 2; what++) calls.add("at(" + night + ", " + w + ", " + what + ")");
            }
            String[] rest = {"longs(W)", "ripe(W, 12, -1)", "ripe(W, 12, 0)", "cold(W, 0)", "cold(W, 1)", "come(W, 0)", "come(W, 1)", "was(W, 0)",
                "was(W, 1)", "ask(W)", "frost(5, 5, W, 12, 0)", "frost(5, 5, W, 12, 1)"};
            for (String call : rest) calls.add(call.replace("W", Integer.toString(w)));
        }
        calls.addAll(List.of("scream(0)", "scream(1)"));
        for (int letter = 0; letter <= 7; letter++) {
            for (int what = 0; what <= 1; what++) calls.add("chord(" + letter + ", " + what + ")");
        }
        calls.addAll(List.of("hush()", "sale()", "never()", "summer(7, 20, 0)", "summer(7, 20, 1)"));
        return calls.stream().map(call -> Edge.answer(x, call)).toList();
    }

    /** 31 h and each, as longs that wrap: the lowest 64 bits of the whole number. */
    private static long fold(List<Long> parts) {
        BigInteger h = BigInteger.valueOf(17);
        for (long part : parts) {
            h = h.multiply(BigInteger.valueOf(31)).add(BigInteger.valueOf(part));
        }
        return h.longValue();
    }

    @Says(promise = 36, value = "h is 17; h becomes 31 h and each of: count() 0 to 7")
    static void digestOfANewObject() {
        List<Long> parts = new ArrayList<>();
        for (int i = 0; i < 8; i++) parts.add(0L);
        for (int i = 0; i < 2; i++) parts.add(-1L);
        for (int i = 0; i < 4; i++) parts.add(5L);
        for (int i = 0; i < 2 + 16; i++) parts.add(-1L);
        parts.addAll(List.of(1073741823L, 0L, 0L, 0L, 0L));
        Edge.due(Edge.empty(), "digest()", fold(parts));
        // count() 8 is not in it
        Edge.due(Edge.ear("", "", "lose(0)"), "digest()", fold(parts));
    }

    /** On an object that was asked nothing else: the parts are asked of one like it. */
    private static void digestDue(Supplier<CheeseEar> made) {
        long due = fold(parts(made.get()));
        CheeseEar x = made.get();
        Edge.due(x, "digest()", due);
        Edge.due(x, "digest()", due);
    }

    @Says(promise = 36, value = "as longs that wrap")
    static void digestWraps() {
        digestDue(Edge::lived);
        digestDue(Edge::full);
        digestDue(() -> Edge.ear(Edge.EIGHT_SHORT, ""));
        digestDue(() -> Edge.ear("h00a;", "1x"));
    }

    @Says(promise = 36, value = "hush(), sale(), never(), summer(7, 20, 0 and 1)")
    static void digestOfTwentyLots() {
        // by seed 7 the twentieth lot is 8 (and not 5), the night behind it is 5 warm (the twenty-first lot would be 0)
        Edge.due(Edge.ear("b19a", ""), "summer(7, 20, 0)", 0);
        Edge.due(Edge.ear("b19ab", "", "set(0, 6)"), "summer(7, 20, 0)", 1);
        digestDue(() -> Edge.ear("b19a", ""));
        digestDue(() -> Edge.ear("b19ab", "", "set(0, 6)"));
    }
}

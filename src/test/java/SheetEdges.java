import java.util.function.Supplier;

/** Boundary cases of promises 29 to 34: sheets. */
final class SheetEdges {
    private static final int[] SIZES = {0, 1, 59, 60};

    private SheetEdges() {
    }

    // ---- 29: sheet

    @Says(promise = 29, value = "SHEETS 0 .. 3 are LOST (at first) or a row of a FORM: 0 bytes, 1 shorts, 2 ints, of 0 to 60 items (0 at first).")
    static void rowsOf0To60Items() {
        for (int s = 0; s <= 3; s++) {
            for (int form = 0; form <= 2; form++) {
                for (int n : SIZES) {
                    CheeseEar x = new CheeseEar();
                    Edge.due(x, "sheet(" + s + ", " + form + ", " + n + ")", n);
                    for (int i = 0; i < n; i++) {
                        Edge.due(x, "get(" + s + ", " + form + ", " + i + ")", 0);
                    }
                    Edge.due(x, "count(8)", 0);
                    Edge.due(x, "put(" + s + ", " + form + ", " + n + ", 1)", Edge.INDEX);
                    for (int other = 0; other <= 3; other++) {
                        Edge.due(x, "lose(" + other + ")", other == s ? n : Edge.NULL);
                    }
                }
            }
        }
    }

    @Says(promise = 29, value = "A SHEET is a new row of a FORM with n items: n.")
    static void aNewRow() {
        CheeseEar x = Edge.ear("", "", "sheet(0, 2, 60)", "put(0, 2, 0, 7)", "put(0, 2, 59, 7)");
        // the same form and number again: 0 at first
        Edge.due(x, "sheet(0, 2, 60)", 60);
        Edge.due(x, "get(0, 2, 0)", 0);
        Edge.due(x, "get(0, 2, 59)", 0);
        Edge.after(x, "put(0, 2, 1, 7)");
        Edge.due(x, "sheet(0, 0, 2)", 2);
        Edge.due(x, "get(0, 0, 1)", 0);
        Edge.due(x, "put(0, 2, 1, 7)", Edge.CAST);
        // fewer items, then more: what was behind is not there
        Edge.after(x, "put(0, 0, 1, 7)", "sheet(0, 0, 1)", "sheet(0, 0, 2)");
        Edge.due(x, "get(0, 0, 1)", 0);
        // a lost one may come again, and empty
        Edge.after(x, "put(0, 0, 1, 7)", "lose(0)");
        Edge.due(x, "sheet(0, 0, 2)", 2);
        Edge.due(x, "get(0, 0, 1)", 0);
    }

    @Says(promise = 29, value = "BAD: SHEET, FORM, above 60; SIZE.")
    static void sheetRefuses() {
        Edge.allRefused(Edge::lived, Edge.BAD, "sheet(-1, 0, 1)", "sheet(4, 0, 1)", "sheet(0, -1, 1)", "sheet(0, 3, 1)", "sheet(0, 0, 61)",
            "sheet(3, 0, 61)", "sheet(0, 0, 2147483647)");
        Edge.farRefused(Edge::lived, "sheet(?, 0, 1)", Edge.BAD);
        Edge.farRefused(Edge::lived, "sheet(0, ?, 1)", Edge.BAD);
        Edge.allRefused(Edge::lived, Edge.SIZE, "sheet(0, 0, -1)", "sheet(1, 2, -1)", "sheet(3, 1, -1)", "sheet(3, 1, -2147483648)");
        // BAD is told ahead of SIZE
        Edge.allRefused(Edge::lived, Edge.BAD, "sheet(-1, 0, -1)", "sheet(4, 0, -1)", "sheet(0, -1, -1)", "sheet(0, 3, -1)");
    }

    // ---- 30: lose

    @Says(promise = 30, value = "It is LOST: how many items it had. BAD; NULL.")
    static void loseRefuses() {
        for (int s = 0; s <= 3; s++) {
            for (int n : SIZES) {
                CheeseEar x = Edge.ear("", "", "sheet(" + s + ", 1, " + n + ")");
                Edge.due(x, "lose(" + s + ")", n);
                Edge.due(x, "count(8)", 0);
                Edge.due(x, "lose(" + s + ")", Edge.NULL);
                Edge.due(x, "read(" + s + ")", Edge.NULL);
            }
            Edge.refused(Edge::empty, "lose(" + s + ")", Edge.NULL);
        }
        Edge.refused(Edge::lived, "lose(3)", Edge.NULL);
        Edge.allRefused(Edge::lived, Edge.BAD, "lose(-1)", "lose(4)");
        Edge.farRefused(Edge::lived, "lose(?)", Edge.BAD);
    }

    // ---- 31: put

    private static void kept(int form, int v, int want) {
        CheeseEar x = Edge.ear("", "", "sheet(2, " + form + ", 3)");
        Edge.due(x, "put(2, " + form + ", 1, " + v + ")", 1);
        Check.due("form " + form + " keeps of " + v, x.get(2, form, 1), want);
        Edge.due(x, "get(2, " + form + ", 0)", 0);
        Edge.due(x, "get(2, " + form + ", 2)", 0);
    }

    @Says(promise = 31, value = "Item i, treated as of a FORM, becomes v (the lowest bits that it has): 1.")
    static void theLowestBits() {
        int[][] bytes = {{0, 0}, {127, 127}, {128, -128}, {255, -1}, {256, 0}, {-128, -128}, {-129, 127}, {-1, -1}, {Integer.MAX_VALUE, -1}};
        for (int[] b : bytes) {
            kept(0, b[0], b[1]);
        }
        kept(0, Integer.MIN_VALUE, 0);
        int[][] shorts = {{0, 0}, {32767, 32767}, {32768, -32768}, {65535, -1}, {65536, 0}, {-32768, -32768}, {-32769, 32767}, {-1, -1}};
        for (int[] s : shorts) {
            kept(1, s[0], s[1]);
        }
        kept(1, 200, 200);
        kept(1, Integer.MAX_VALUE, -1);
        kept(1, Integer.MIN_VALUE, 0);
        for (int v : new int[] {0, 200, 70000, -1, Integer.MAX_VALUE, Integer.MIN_VALUE}) {
            kept(2, v, v);
        }
        // the first item and the last of sixty
        CheeseEar x = Edge.ear("", "", "sheet(0, 2, 60)");
        Edge.due(x, "put(0, 2, 0, 5)", 1);
        Edge.due(x, "put(0, 2, 59, 6)", 1);
        Edge.due(x, "get(0, 2, 0)", 5);
        Edge.due(x, "get(0, 2, 59)", 6);
    }

    private static final int[] NO_ITEMS_OF_THREE = {-1, 3, 4, 59, 60, 61, Integer.MAX_VALUE, Integer.MIN_VALUE};

    @Says(promise = 31, value = "BAD; NULL; CAST; INDEX.")
    static void putRefuses() {
        Edge.allRefused(Edge::lived, Edge.BAD, "put(-1, 0, 0, 1)", "put(4, 0, 0, 1)", "put(0, -1, 0, 1)", "put(0, 3, 0, 1)");
        Edge.farRefused(Edge::lived, "put(?, 0, 0, 1)", Edge.BAD);
        Edge.farRefused(Edge::lived, "put(0, ?, 0, 1)", Edge.BAD);
        Edge.refused(Edge::lived, "put(3, 0, 0, 1)", Edge.NULL);
        for (int s = 0; s <= 2; s++) {
            for (int form = 0; form <= 2; form++) {
                // each of the three sheets there has the form of its own number
                String call = "put(" + s + ", " + form + ", 0, 1)";
                if (form == s) {
                    Edge.due(Edge.lived(), call, 1);
                } else {
                    Edge.refused(Edge::lived, call, Edge.CAST);
                }
            }
        }
        for (int i : NO_ITEMS_OF_THREE) {
            Edge.refused(Edge::lived, "put(0, 0, " + i + ", 1)", Edge.INDEX);
        }
        Edge.refused(() -> Edge.ear("", "", "sheet(0, 0, 0)"), "put(0, 0, 0, 1)", Edge.INDEX);
    }

    @Says(promise = 31, value = "Refusals, the first that fits, in the order told at each act")
    static void putRefusesInOrder() {
        // BAD ahead of NULL, of CAST and of INDEX; NULL ahead of CAST and of INDEX; CAST ahead of INDEX
        Edge.allRefused(Edge::lived, Edge.BAD, "put(3, 3, 0, 1)", "put(3, -1, 0, 1)", "put(0, 3, -1, 1)", "put(4, 1, -1, 1)");
        Edge.allRefused(Edge::lived, Edge.NULL, "put(3, 1, 0, 1)", "put(3, 0, -1, 1)", "put(3, 2, 60, 1)");
        Edge.allRefused(Edge::lived, Edge.CAST, "put(0, 1, -1, 1)", "put(0, 2, 3, 1)", "put(2, 0, 4, 1)");
    }

    // ---- 32: get

    @Says(promise = 32, value = "Item i of it.")
    static void getOfItems() {
        CheeseEar x = Edge.ear("", "", "sheet(0, 2, 60)", "put(0, 2, 0, 5)", "put(0, 2, 59, -2147483648)");
        Edge.due(x, "get(0, 2, 0)", 5);
        // an item may be the least int itself, and is no finding then
        Edge.due(x, "get(0, 2, 59)", Edge.LEAST_INT);
        Edge.due(x, "count(8)", 0);
        Edge.due(x, "get(0, 2, 60)", Edge.LEAST_INT);
        Edge.due(x, "count(8)", 2);
    }

    @Says(promise = 32, value = "BAD: the least int; so are NULL, CAST, INDEX (count() 8 tells).")
    static void getRefuses() {
        for (String call : new String[] {"get(-1, 0, 0)", "get(4, 0, 0)", "get(0, -1, 0)", "get(0, 3, 0)", "get(3, 3, 0)", "get(0, 3, -1)"}) {
            Edge.refused(Edge::lived, call, Edge.LEAST_INT, Edge.LIVED_FINDING);
        }
        for (int far : Check.WRONG_INTS) {
            Edge.refused(Edge::lived, "get(" + far + ", 0, 0)", Edge.LEAST_INT, Edge.LIVED_FINDING);
            Edge.refused(Edge::lived, "get(0, " + far + ", 0)", Edge.LEAST_INT, Edge.LIVED_FINDING);
        }
        for (String call : new String[] {"get(3, 0, 0)", "get(3, 1, -1)", "get(3, 2, 60)"}) {
            Edge.refused(Edge::lived, call, Edge.LEAST_INT, 1);
        }
        for (String call : new String[] {"get(0, 1, 0)", "get(0, 2, 0)", "get(1, 0, 0)", "get(1, 2, 0)", "get(2, 0, 0)", "get(2, 1, 0)",
            "get(0, 1, -1)", "get(0, 2, 3)"}) {
            Edge.refused(Edge::lived, call, Edge.LEAST_INT, 3);
        }
        for (int i : NO_ITEMS_OF_THREE) {
            Edge.refused(Edge::lived, "get(0, 0, " + i + ")", Edge.LEAST_INT, 2);
        }
        Edge.refused(() -> Edge.ear("", "", "sheet(0, 0, 0)"), "get(0, 0, 0)", Edge.LEAST_INT, 2);
    }

    // ---- 33: copy

    /** Sheets 0 (five items 1 to 5) and 1 (three items 7, 8, 9) of ints, 2 of three bytes; 3 is lost; a finding 5. */
    private static CheeseEar rows() {
        return Edge.ear("", "", "sheet(0, 2, 5)", "put(0, 2, 0, 1)", "put(0, 2, 1, 2)", "put(0, 2, 2, 3)", "put(0, 2, 3, 4)", "put(0, 2, 4, 5)",
            "sheet(1, 2, 3)", "put(1, 2, 0, 7)", "put(1, 2, 1, 8)", "put(1, 2, 2, 9)", "sheet(2, 0, 3)", "sheet(3, 0, -1)");
    }

    private static void copied(String call, int t, int... want) {
        CheeseEar x = rows();
        Edge.due(x, call, 1);
        for (int i = 0; i < want.length; i++) {
            Check.due("behind " + call + " item " + i, x.get(t, 2, i), want[i]);
        }
        Edge.due(x, "count(8)", 5);
    }

    @Says(promise = 33, value = "n items of SHEET s, from i on, come to SHEET t (perhaps s, as they were), from j on: 1.")
    static void copiesToTheEnds() {
        copied("copy(0, 0, 1, 0, 3)", 1, 1, 2, 3);
        copied("copy(0, 2, 1, 0, 3)", 1, 3, 4, 5);
        copied("copy(0, 4, 1, 2, 1)", 1, 7, 8, 5);
        copied("copy(1, 0, 0, 2, 3)", 0, 1, 2, 7, 8, 9);
        // perhaps s, as they were: up, down, all of it, onto itself
        copied("copy(0, 0, 0, 1, 4)", 0, 1, 1, 2, 3, 4);
        copied("copy(0, 1, 0, 0, 4)", 0, 2, 3, 4, 5, 5);
        copied("copy(0, 0, 0, 2, 3)", 0, 1, 2, 1, 2, 3);
        copied("copy(0, 0, 0, 0, 5)", 0, 1, 2, 3, 4, 5);
        // none, up to the ends themselves
        copied("copy(0, 0, 1, 0, 0)", 1, 7, 8, 9);
        copied("copy(0, 5, 1, 3, 0)", 1, 7, 8, 9);
        // all sixty
        CheeseEar x = Edge.ear("", "", "sheet(0, 1, 60)", "sheet(3, 1, 60)", "put(0, 1, 0, 5)", "put(0, 1, 59, 6)");
        Edge.due(x, "copy(0, 0, 3, 0, 60)", 1);
        Edge.due(x, "get(3, 1, 0)", 5);
        Edge.due(x, "get(3, 1, 59)", 6);
        // rows without items
        Edge.due(Edge.ear("", "", "sheet(0, 1, 0)", "sheet(1, 1, 0)"), "copy(0, 0, 1, 0, 0)", 1);
    }

    @Says(promise = 33, value = "BAD: the SHEETS; NULL: s, t; STORE")
    static void copyRefusesSheets() {
        Supplier<CheeseEar> rows = SheetEdges::rows;
        Edge.allRefused(rows, Edge.BAD, "copy(-1, 0, 0, 0, 1)", "copy(4, 0, 0, 0, 1)", "copy(0, 0, -1, 0, 1)", "copy(0, 0, 4, 0, 1)");
        Edge.farRefused(rows, "copy(?, 0, 0, 0, 1)", Edge.BAD);
        Edge.farRefused(rows, "copy(0, 0, ?, 0, 1)", Edge.BAD);
        Edge.allRefused(rows, Edge.NULL, "copy(3, 0, 0, 0, 1)", "copy(0, 0, 3, 0, 1)", "copy(3, 0, 3, 0, 1)", "copy(3, 0, 0, 0, 0)");
        Edge.allRefused(rows, Edge.STORE, "copy(0, 0, 2, 0, 1)", "copy(2, 0, 0, 0, 1)", "copy(0, 0, 2, 0, 0)");
        Edge.allRefused(Edge::lived, Edge.STORE, "copy(0, 0, 1, 0, 1)", "copy(1, 0, 2, 0, 1)", "copy(2, 0, 0, 0, 1)");
        // BAD ahead of NULL, NULL ahead of STORE and INDEX, STORE ahead of INDEX
        Edge.allRefused(rows, Edge.BAD, "copy(4, 0, 3, 0, 1)", "copy(3, 0, 4, 0, 1)", "copy(3, -1, -1, 0, 1)");
        Edge.allRefused(rows, Edge.NULL, "copy(3, 0, 2, 0, 1)", "copy(2, 0, 3, -1, 1)", "copy(3, 0, 0, 0, -1)", "copy(0, 9, 3, 0, 1)");
        Edge.allRefused(rows, Edge.STORE, "copy(0, 9, 2, 0, 1)", "copy(0, 0, 2, -1, 1)", "copy(2, 0, 0, 0, -1)", "copy(2, 0, 0, 0, 61)");
    }

    @Says(promise = 33, value = "INDEX: below 0, not so many.")
    static void copyRefusesItems() {
        Supplier<CheeseEar> rows = SheetEdges::rows;
        Edge.allRefused(rows, Edge.INDEX, "copy(0, -1, 1, 0, 1)", "copy(0, 0, 1, -1, 1)", "copy(0, 0, 1, 0, -1)", "copy(0, -1, 1, -1, -1)",
            "copy(0, -1, 1, 0, 0)", "copy(0, 0, 1, -1, 0)");
        Edge.allRefused(rows, Edge.INDEX, "copy(0, 3, 1, 0, 3)", "copy(0, 0, 1, 1, 3)", "copy(0, 0, 1, 0, 4)", "copy(0, 5, 1, 0, 1)",
            "copy(0, 0, 1, 3, 1)", "copy(0, 6, 1, 0, 0)", "copy(0, 0, 1, 4, 0)", "copy(0, 0, 0, 0, 6)", "copy(0, 1, 0, 0, 5)", "copy(0, 0, 0, 1, 5)");
        // sums that would wrap
        Edge.allRefused(rows, Edge.INDEX, "copy(0, 1, 1, 0, 2147483647)", "copy(0, 2147483647, 1, 0, 1)", "copy(0, 0, 1, 2147483647, 1)",
            "copy(0, 2147483647, 1, 2147483647, 2147483647)", "copy(0, -2147483648, 1, 0, -2147483648)", "copy(0, 0, 1, 0, -2147483648)");
        // behind its items a row has no others, though there may be sixty
        Edge.refused(() -> Edge.ear("", "", "sheet(0, 0, 60)", "sheet(1, 0, 59)"), "copy(0, 0, 1, 0, 60)", Edge.INDEX);
        Edge.refused(() -> Edge.ear("", "", "sheet(0, 0, 60)", "sheet(1, 0, 60)"), "copy(0, 0, 1, 0, 61)", Edge.INDEX);
    }

    // ---- 34: write

    @Says(promise = 34, value = "What is HEARD of a WHEEL on NIGHTS 0 on (NONE) comes to a SHEET from item 0 on, as many as there are items, 30 at most: how many.")
    static void writesAtMost30() {
        for (int form = 0; form <= 2; form++) {
            for (int n : new int[] {0, 1, 29, 30, 31, 60}) {
                // heard as h on nights 1 to 28, as g on night 29
                CheeseEar x = Edge.ear("s01hg", Edge.NO_WARMTH.substring(1) + "6", "set(1, 8)", "sheet(1, " + form + ", " + n + ")");
                for (int i = 0; i < n; i++) {
                    Edge.after(x, "put(1, " + form + ", " + i + ", 99)");
                }
                Edge.due(x, "write(0, 1)", Math.min(n, 30));
                for (int i = 0; i < n; i++) {
                    Edge.due(x, "get(1, " + form + ", " + i + ")", i == 0 ? Edge.NONE : i < 29 ? 7 : i == 29 ? 6 : 99);
                }
                Edge.due(x, "lose(1)", n);
            }
        }
        // the eighth wheel to the fourth sheet
        CheeseEar y = Edge.ear(Edge.EIGHT_SHORT, "", "sheet(3, 0, 60)");
        Edge.due(y, "write(7, 3)", 30);
        Edge.due(y, "get(3, 0, 6)", Edge.NONE);
        Edge.due(y, "get(3, 0, 7)", 7);
        Edge.due(y, "get(3, 0, 8)", Edge.NONE);
    }

    @Says(promise = 34, value = "BAD; NULL.")
    static void writeRefuses() {
        Edge.allRefused(Edge::lived, Edge.BAD, "write(-1, 0)", "write(3, 0)", "write(8, 0)", "write(0, -1)", "write(0, 4)");
        Edge.farRefused(Edge::lived, "write(?, 0)", Edge.BAD);
        Edge.farRefused(Edge::lived, "write(0, ?)", Edge.BAD);
        Edge.refused(Edge::lived, "write(0, 3)", Edge.NULL);
        // BAD is told ahead of NULL
        Edge.allRefused(Edge::lived, Edge.BAD, "write(3, 3)", "write(-1, 3)");
        Edge.refused(() -> Edge.ear("", "", "sheet(0, 0, 3)"), "write(0, 0)", Edge.BAD);
        Edge.refused(Edge::empty, "write(0, 0)", Edge.BAD);
    }
}

/** Boundary cases of promises 9 to 12: turnings, knocks, what is undone of them, turnings from a sheet. */
final class MarkEdges {
    private static final int ALL_EIGHT = 255;

    private MarkEdges() {
    }

    // ---- 9: turning

    @Says(promise = 9, value = "TURNINGS, 8 at most (0 on): on a NIGHT of a WHEEL (0 to 7).")
    static void eightTurnings() {
        CheeseEar x = Edge.ear("h00abcde", "99999999999999999999");
        Edge.due(x, "count(4)", 0);
        for (int i = 0; i < 8; i++) {
            Edge.due(x, "turning(" + 2 * i + ", 0)", i + 1);
        }
        Edge.due(x, "turning(16, 0)", Edge.FULL);
        Edge.due(x, "count(4)", 8);
        // each of the eight counts, on its night and on the one behind it: 16 nights by 9, then by 4
        Edge.due(x, "at(15, 0, 0)", 144);
        Edge.due(x, "at(16, 0, 0)", 148);
        // they are 0 on: bits 0 to 7
        Edge.due(x, "never()", ALL_EIGHT);
    }

    @Says(promise = 9, value = "on a NIGHT of a WHEEL (0 to 7)")
    static void turningsOfWheels0To7() {
        for (int w = 0; w <= 7; w++) {
            Edge.due(new CheeseEar(), "turning(0, " + w + ")", 1);
            CheeseEar x = Edge.ear(Edge.EIGHT_SHORT, "", "set(0, 20)", "turning(9, " + w + ")");
            CheeseEar y = Edge.ear(Edge.EIGHT_SHORT, "", "set(0, 20)");
            for (int other = 0; other <= 7; other++) {
                // a blue one heeds no turning; hard ones come by 5 in place of 2 for two nights, soft ones by 0 in place of 7; the eighth is eaten
                int more = other != w || w == 7 || w % 3 == 2 ? 0 : w % 3 == 0 ? 6 : -7;
                Check.due("wheel " + other + " by a turning of " + w, x.at(10, other, 0) - y.at(10, other, 0), more);
            }
        }
        Edge.allRefused(Edge::lived, Edge.BAD, "turning(0, -1)", "turning(0, 8)");
        Edge.farRefused(Edge::lived, "turning(0, ?)", Edge.BAD);
        // of a wheel that there is not yet: it counts when it is there
        CheeseEar late = Edge.ear("", "", "turning(0, 0)");
        Check.typeAll(late, 0, "h00a");
        Edge.due(late, "at(0, 0, 0)", 5);
    }

    @Says(promise = 9, value = "NIGHTS are 0 to 29.")
    static void turningsOnNights0To29() {
        CheeseEar x = Edge.ear("s00abcde", "", "set(0, 20)");
        Edge.due(x, "at(29, 0, 0)", 210);
        Edge.due(x, "turning(0, 0)", 1);
        Edge.due(x, "at(0, 0, 0)", 0);
        Edge.due(x, "turning(29, 0)", 2);
        Edge.due(x, "at(28, 0, 0)", 196);
        Edge.due(x, "at(29, 0, 0)", 196);
        Edge.allRefused(Edge::lived, Edge.BAD, "turning(-1, 0)", "turning(30, 0)");
        Edge.farRefused(Edge::lived, "turning(?, 0)", Edge.BAD);
    }

    @Says(promise = 9, value = "A TURNING more: how many. BAD; FULL.")
    static void turningRefuses() {
        Edge.allRefused(Edge::full, Edge.FULL, "turning(0, 0)", "turning(29, 7)");
        // BAD is told ahead of FULL
        Edge.allRefused(Edge::full, Edge.BAD, "turning(30, 0)", "turning(-1, 0)", "turning(0, 8)", "turning(0, -1)");
        // one that is there already is one more
        CheeseEar x = new CheeseEar();
        for (int i = 1; i <= 8; i++) {
            Edge.due(x, "turning(3, 3)", i);
        }
        Edge.due(x, "turning(3, 3)", Edge.FULL);
    }

    // ---- 10: knock

    @Says(promise = 10, value = "KNOCKS, 4 at most (0 on): on a NIGHT of a WHEEL.")
    static void fourKnocks() {
        CheeseEar x = Edge.ear("b00abcde", Edge.NO_WARMTH);
        for (int i = 0; i < 4; i++) {
            Edge.due(x, "knock(" + i + ", 0)", i + 1);
        }
        Edge.due(x, "knock(4, 0)", Edge.FULL);
        Edge.due(x, "count(5)", 4);
        Edge.rowDue(x, 0, 0, 3, 6, 9, 12, 13);
        for (int w = 0; w <= 7; w++) {
            Edge.due(new CheeseEar(), "knock(0, " + w + ")", 1);
            CheeseEar y = Edge.ear(Edge.EIGHT_SHORT, "", "set(1, 8)", "knock(9, " + w + ")");
            CheeseEar z = Edge.ear(Edge.EIGHT_SHORT, "", "set(1, 8)");
            for (int other = 0; other <= 7; other++) {
                Check.due("wheel " + other + " by a knock of " + w, y.at(9, other, 0) - z.at(9, other, 0), other == w ? 2 : 0);
            }
        }
    }

    @Says(promise = 10, value = "NIGHTS are 0 to 29.")
    static void knocksOnNights0To29() {
        CheeseEar x = Edge.ear("h00abcde", Edge.NO_WARMTH);
        Edge.due(x, "knock(0, 0)", 1);
        Edge.due(x, "at(0, 0, 0)", 2);
        Edge.due(x, "knock(29, 0)", 2);
        Edge.due(x, "at(28, 0, 0)", 2);
        Edge.due(x, "at(29, 0, 0)", 4);
    }

    @Says(promise = 10, value = "A KNOCK more: how many. BAD; FULL.")
    static void knockRefuses() {
        Edge.allRefused(Edge::lived, Edge.BAD, "knock(-1, 0)", "knock(30, 0)", "knock(0, -1)", "knock(0, 8)");
        Edge.farRefused(Edge::lived, "knock(?, 0)", Edge.BAD);
        Edge.farRefused(Edge::lived, "knock(0, ?)", Edge.BAD);
        Edge.allRefused(Edge::full, Edge.FULL, "knock(0, 0)", "knock(29, 7)");
        // BAD is told ahead of FULL
        Edge.allRefused(Edge::full, Edge.BAD, "knock(30, 0)", "knock(-1, 0)", "knock(0, 8)", "knock(0, -1)");
        CheeseEar x = new CheeseEar();
        for (int i = 1; i <= 4; i++) {
            Edge.due(x, "knock(3, 3)", i);
        }
        Edge.due(x, "knock(3, 3)", Edge.FULL);
    }

    // ---- 11: back

    @Says(promise = 11, value = "The last TURNING (what = 0), KNOCK (1) is undone: how many are left.")
    static void backFromFullToNothing() {
        CheeseEar x = Edge.full();
        for (int left = 7; left >= 0; left--) {
            Edge.due(x, "back(0)", left);
        }
        Edge.due(x, "count(5)", 4);
        for (int left = 3; left >= 0; left--) {
            Edge.due(x, "back(1)", left);
        }
        // the last, not the first; and there is room again
        CheeseEar y = Edge.ear("s00abcde", "", "set(0, 20)", "turning(0, 0)");
        for (int i = 1; i < 8; i++) {
            Edge.after(y, "turning(1, 0)");
        }
        Edge.due(y, "turning(2, 0)", Edge.FULL);
        for (int left = 7; left >= 1; left--) {
            Edge.due(y, "back(0)", left);
        }
        Edge.rowDue(y, 0, 0, 0, 7, 14);
        Edge.due(y, "turning(2, 0)", 2);
        Edge.rowDue(y, 0, 0, 0, 7, 7);
        CheeseEar z = Edge.ear("h00a", Edge.NO_WARMTH, "knock(0, 0)", "knock(1, 0)", "back(1)");
        Edge.rowDue(z, 0, 0, 2, 2);
    }

    @Says(promise = 11, value = "BAD; NOT: there is none.")
    static void backRefuses() {
        Edge.allRefused(Edge::lived, Edge.BAD, "back(-1)", "back(2)");
        Edge.farRefused(Edge::lived, "back(?)", Edge.BAD);
        Edge.allRefused(Edge::empty, Edge.NOT, "back(0)", "back(1)");
        Edge.refused(() -> Edge.ear("h00a", "", "turning(0, 0)"), "back(1)", Edge.NOT);
        Edge.refused(() -> Edge.ear("h00a", "", "knock(0, 0)"), "back(0)", Edge.NOT);
        Edge.refused(() -> Edge.ear("h00a", "", "turning(0, 0)", "back(0)"), "back(0)", Edge.NOT);
        // BAD is told ahead of NOT
        Edge.allRefused(Edge::empty, Edge.BAD, "back(-1)", "back(2)");
    }

    // ---- 12: read

    private static CheeseEar withSheet(int form, int... items) {
        CheeseEar x = Edge.ear("s00abcde", "", "set(0, 20)", "sheet(0, " + form + ", " + items.length + ")");
        for (int i = 0; i < items.length; i++) {
            Edge.after(x, "put(0, " + form + ", " + i + ", " + items[i] + ")");
        }
        return x;
    }

    @Says(promise = 12, value = "TURNINGS from a SHEET: its items, two for each, as many as are whole")
    static void asManyAsAreWhole() {
        for (int form = 0; form <= 2; form++) {
            Edge.due(withSheet(form), "read(0)", 0);
            Edge.due(withSheet(form, 0), "read(0)", 0);
            Edge.due(withSheet(form, 0, 0), "read(0)", 1);
            Edge.due(withSheet(form, 0, 0, 1), "read(0)", 1);
            Edge.due(withSheet(form, 0, 0, 1, 0), "read(0)", 2);
            CheeseEar x = withSheet(form, 0, 0, 2, 0, 3);
            Edge.due(x, "read(0)", 2);
            Edge.due(x, "count(4)", 2);
            Edge.rowDue(x, 0, 0, 0, 7, 7, 14);
        }
        Edge.due(withSheet(0, 29, 7), "read(0)", 1);
    }

    @Says(promise = 12, value = "as long as each may be: how many.")
    static void asLongAsEachMayBe() {
        int[][] wrongs = {{30, 0}, {-1, 0}, {0, 8}, {0, -1}, {Integer.MAX_VALUE, 0}, {0, Integer.MIN_VALUE}};
        for (int[] wrong : wrongs) {
            CheeseEar x = withSheet(2, 3, 0, wrong[0], wrong[1], 5, 0);
            Edge.due(x, "read(0)", 1);
            Edge.due(x, "count(4)", 1);
            Edge.due(withSheet(2, wrong[0], wrong[1], 5, 0), "read(0)", 0);
        }
        // 256 is 0 as a byte, and so a night
        Edge.due(withSheet(0, 256, 0), "read(0)", 1);
        Edge.due(withSheet(1, 256, 0), "read(0)", 0);
        // sixty items are thirty turnings, of which eight may be
        CheeseEar all = withSheet(0, new int[60]);
        Edge.due(all, "read(0)", 8);
        Edge.due(all, "count(4)", 8);
        Edge.due(all, "read(0)", 0);
        Edge.due(all, "count(4)", 8);
        CheeseEar seven = withSheet(0, 0, 0, 1, 0);
        for (int i = 0; i < 7; i++) {
            Edge.after(seven, "turning(9, 1)");
        }
        Edge.due(seven, "read(0)", 1);
        Edge.rowDue(seven, 0, 0, 0, 7);
        Edge.due(seven, "back(0)", 7);
        // those that may not be are no findings
        Edge.due(all, "count(8)", 0);
    }

    @Says(promise = 12, value = "BAD; NULL.")
    static void readRefuses() {
        Edge.allRefused(Edge::lived, Edge.BAD, "read(-1)", "read(4)");
        Edge.farRefused(Edge::lived, "read(?)", Edge.BAD);
        Edge.refused(Edge::lived, "read(3)", Edge.NULL);
        Edge.refused(() -> withSheet(0, 0, 0), "read(1)", Edge.NULL);
        Edge.refused(() -> Edge.after(withSheet(0, 0, 0), "lose(0)"), "read(0)", Edge.NULL);
        // NULL comes also where there is no room
        Edge.refused(Edge::full, "read(0)", Edge.NULL);
    }
}

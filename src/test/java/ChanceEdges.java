/** Boundary cases of promises 27 and 28: cold by chance, and other summers. */
final class ChanceEdges {
    /** 9 warm on nights 0 to 9, then 0: a blue wheel is 120 old on night 29, and 9 less by each frost. */
    private static final String TEN_WARM = "9999999999" + Edge.NO_WARMTH.substring(10);

    private ChanceEdges() {
    }

    // ---- 27: frost

    private static void frostDue(CheeseEar x, String call, long above, long below) {
        Edge.due(x, "frost(" + call + ", 0)", above);
        Edge.due(x, "frost(" + call + ", 1)", below);
    }

    @Says(promise = 27, value = "FROST: on each NIGHT from 0 to a told one (0 to 9) it is 0 WARM")
    static void frostUpToNights0To9() {
        // heard on night 29 by three frosts or more
        CheeseEar x = Edge.ear("b00abcde", TEN_WARM, "set(0, 20)");
        frostDue(x, "16, 0, 0, 29", 0, 1);
        frostDue(x, "16, 1, 0, 29", 0, 1);
        frostDue(x, "16, 2, 0, 29", 1, 1);
        frostDue(x, "16, 9, 0, 29", 1, 1);
        frostDue(x, "1, 2, 0, 29", 1, 4096);
        frostDue(x, "8, 9, 0, 29", 121, 128);
        // on night 0, and on the told one, but not behind it
        frostDue(Edge.ear("b00a", "9"), "4, 0, 0, 0", 1, 4);
        for (int last = 0; last <= 9; last++) {
            CheeseEar y = Edge.ear("b0" + last + "a", TEN_WARM);
            frostDue(y, "4, " + last + ", 0, " + last, 1, 4);
            if (last > 0) {
                frostDue(y, "16, " + (last - 1) + ", 0, " + last, 0, 1);
            }
        }
        frostDue(Edge.ear("b10a", "99999999999"), "16, 9, 0, 10", 0, 1);
    }

    @Says(promise = 27, value = "by c sixteenths (0 to 16), by itself, else as told")
    static void sixteenthsFrom0To16() {
        for (int c = 0; c <= 16; c++) {
            int shared = c == 0 ? 16 : Integer.lowestOneBit(c);
            frostDue(Edge.ear("b00a", "9"), c + ", 0, 0, 0", c / shared, 16 / shared);
        }
        // by itself: one frost of two is enough, and both are needed
        frostDue(Edge.ear("b00a", ""), "4, 1, 0, 1", 7, 16);
        frostDue(Edge.ear("b00a", "99"), "4, 1, 0, 1", 1, 16);
        // never, and on each night; else as told
        CheeseEar x = Edge.ear("b00abcde", TEN_WARM, "set(0, 20)");
        frostDue(x, "0, 9, 0, 29", 0, 1);
        frostDue(x, "0, 9, 0, 8", 1, 1);
        frostDue(x, "0, 9, 0, 9", 0, 1);
        frostDue(x, "16, 9, 0, 9", 1, 1);
    }

    @Says(promise = 27, value = "the chance that a WHEEL is HEARD on a NIGHT: a FRACTION.")
    static void theChanceToBeHeard() {
        // not there yet; on its night; the last night
        CheeseEar x = Edge.ear("b05a;s00h;s00ah;h19a", "");
        frostDue(x, "8, 9, 0, 0", 0, 1);
        frostDue(x, "8, 9, 0, 4", 0, 1);
        frostDue(x, "8, 9, 0, 5", 1, 1);
        frostDue(x, "8, 9, 0, 29", 0, 1);
        // frost ahead of its night is no matter
        frostDue(x, "8, 4, 0, 6", 0, 1);
        frostDue(x, "8, 5, 0, 6", 1, 2);
        // eaten it is heard then, and gone behind that
        frostDue(x, "8, 9, 1, 0", 1, 1);
        frostDue(x, "8, 9, 1, 1", 0, 1);
        // eaten on night 1 but by a frost on either night
        frostDue(x, "8, 9, 2, 1", 1, 1);
        frostDue(x, "8, 9, 2, 2", 3, 4);
        // behind the frosts it is as told: by 2 each night
        frostDue(x, "8, 9, 3, 18", 0, 1);
        frostDue(x, "8, 9, 3, 21", 1, 1);
        frostDue(x, "8, 9, 3, 22", 0, 1);
    }

    @Says(promise = 27, value = "FRACTIONS are told in lowest terms, above and below (0 by 1).")
    static void lowestTerms() {
        CheeseEar x = Edge.ear("b00a", "");
        frostDue(x, "6, 0, 0, 1", 3, 8);
        frostDue(x, "0, 0, 0, 1", 0, 1);
        frostDue(x, "16, 0, 0, 1", 1, 1);
        frostDue(x, "1, 0, 0, 1", 1, 16);
        // sixteen to the tenth and no less: ten frosts are needed
        CheeseEar ten = Edge.ear("b00a", "", "set(0, 11)");
        frostDue(ten, "1, 9, 0, 9", 1, 1L << 40);
        frostDue(ten, "15, 9, 0, 9", 576650390625L, 1L << 40);
        CheeseEar three = Edge.ear("b00abcde", TEN_WARM, "set(0, 20)");
        frostDue(three, "1, 9, 0, 29", 5774391319L, 274877906944L);
        frostDue(three, "15, 9, 0, 29", 274877904375L, 274877906944L);
    }

    @Says(promise = 27, value = "Where the answer is a long, a refusal -x is the least long and x more.")
    static void theLeastLongAnd2More() {
        Edge.due(Edge.empty(), "frost(0, 0, 0, 0, 0)", -9223372036854775806L);
        Edge.due(Edge.empty(), "frost(0, 0, 0, 0, 1)", -9223372036854775806L);
        Edge.due(Edge.ear("b00a", ""), "frost(17, 0, 0, 0, 1)", -9223372036854775806L);
    }

    @Says(promise = 27, value = "FROST: c sixteenths, up to last (0 to 9): above, below. BAD. (As the least long.)")
    static void frostRefuses() {
        Edge.allRefused(Edge::lived, Check.BAD_LONG, "frost(-1, 0, 0, 0, 0)", "frost(17, 0, 0, 0, 0)", "frost(0, -1, 0, 0, 0)", "frost(0, 10, 0, 0, 0)",
            "frost(0, 0, -1, 0, 0)", "frost(0, 0, 3, 0, 0)", "frost(0, 0, 8, 0, 0)", "frost(0, 0, 0, -1, 0)", "frost(0, 0, 0, 30, 0)",
            "frost(0, 0, 0, 0, -1)", "frost(0, 0, 0, 0, 2)");
        Edge.farRefused(Edge::lived, "frost(?, 0, 0, 0, 0)", Check.BAD_LONG);
        Edge.farRefused(Edge::lived, "frost(0, ?, 0, 0, 0)", Check.BAD_LONG);
        Edge.farRefused(Edge::lived, "frost(0, 0, ?, 0, 0)", Check.BAD_LONG);
        Edge.farRefused(Edge::lived, "frost(0, 0, 0, ?, 0)", Check.BAD_LONG);
        Edge.farRefused(Edge::lived, "frost(0, 0, 0, 0, ?)", Check.BAD_LONG);
        Edge.refused(Edge::empty, "frost(0, 0, 0, 0, 0)", Check.BAD_LONG);
        Edge.due(Edge.full(), "frost(0, 0, 8, 0, 0)", Check.BAD_LONG);
        frostDue(Edge.ear(Edge.EIGHT_SHORT, ""), "4, 9, 7, 7", 1, 1);
    }

    // ---- 28: summer

    /** The first twenty lots of 10 by seeds whose steps wrap, and whose upper bits do. */
    private static final int[] SEEDS = {0, 1, -1, Integer.MAX_VALUE, Integer.MIN_VALUE};
    private static final String[] LOTS =
        {"06658559009278758101", "86339587069748517154", "79263481043754989055", "97081603221936767277", "88876731281096536329"};

    @Says(promise = 28, value = "LOTS of m: SEED becomes 1103515245 SEED and 12345, as ints that wrap; its upper 16 bits as a number from 0 on, modulo m.")
    static void lotsThatWrap() {
        for (int i = 0; i < SEEDS.length; i++) {
            for (int night = 0; night < 20; night++) {
                int lot = LOTS[i].charAt(night) - '0';
                String wheel = "b" + night / 10 + night % 10 + "a";
                // on its night it comes by the lot and 1: at a TIME of that it is over, at one more it is heard
                String call = "summer(" + SEEDS[i] + ", 20, 0)";
                Edge.due(Edge.ear(wheel, "", "set(0, " + (lot + 1) + ")"), call, 0);
                Check.holds(call + " of night " + night, Edge.answer(Edge.ear(wheel, "", "set(0, " + (lot + 2) + ")"), call) > 0);
            }
        }
        // a seed is asked anew each time
        CheeseEar x = Edge.ear("b00abcde", "");
        Edge.due(x, "summer(1, 5, 0)", 5);
        Edge.due(x, "summer(1, 5, 0)", 5);
    }

    @Says(promise = 28, value = "n LOTS of 10 (0 to 30) are THE CAVE, in place of that told (5 on later NIGHTS)")
    static void lotsFrom0To30() {
        // by 6 each night: 36 on night 5, over at 40
        CheeseEar x = Edge.ear("b00abcde", "0000");
        for (int seed : SEEDS) {
            Edge.due(x, "summer(" + seed + ", 0, 0)", 6);
        }
        // lots 8, 6, 3, 3, 9
        Edge.due(x, "summer(1, 1, 0)", 6);
        Edge.due(x, "summer(1, 4, 0)", 6);
        Edge.due(x, "summer(1, 5, 0)", 5);
        Edge.due(x, "summer(1, 30, 0)", 5);
        // the cave stays: by 1 for four nights, then by 6
        Edge.due(x, "warm(0)", 0);
        Edge.due(x, "longs(0)", 9);
        // the thirtieth lot is 9, and without it that night is 5 warm: 19 on night 28, over at 22
        CheeseEar last = Edge.ear("h19ab", Edge.NO_WARMTH, "set(0, 11)");
        Edge.due(last, "summer(0, 29, 0)", 11);
        Edge.due(last, "summer(0, 30, 0)", 10);
        Edge.allRefused(Edge::lived, Edge.BAD, "summer(0, -1, 0)", "summer(0, 31, 0)");
    }

    @Says(promise = 28, value = "how many NIGHTS all WHEELS are HEARD together; how many are EATEN.")
    static void togetherAndEaten() {
        for (int many = 1; many <= 8; many++) {
            CheeseEar x = Edge.ear("s00h;".repeat(many - 1) + "s00h", "9");
            Edge.due(x, "summer(1, 0, 0)", 1);
            Edge.due(x, "summer(1, 0, 1)", many);
            // 8 warm: 12 on night 0, over
            Edge.due(x, "summer(1, 1, 0)", 0);
            Edge.due(x, "summer(1, 1, 1)", 0);
        }
        // all of them: one that is not heard then is enough
        Edge.due(Edge.ear("s00a;s01a", ""), "summer(1, 0, 0)", 0);
        Edge.due(Edge.ear("h00a;h00a;h00a;h00a;h00a;h00a;h00a;s02a", ""), "summer(1, 0, 0)", 1);
        // blue ones scream, and are not eaten
        Edge.due(Edge.ear("b00h;s00h;h00h", ""), "summer(1, 0, 1)", 2);
        // on all thirty nights
        Edge.due(Edge.ear("h00abcde", "", "set(0, 20)"), "summer(1, 0, 0)", 30);
    }

    @Says(promise = 28, value = "SUMMER: how many NIGHTS (what = 0; 0 without WHEELS), how many are EATEN (1). BAD.")
    static void summerWithoutWheels() {
        for (int n : new int[] {0, 1, 30}) {
            Edge.due(Edge.empty(), "summer(1, " + n + ", 0)", 0);
            Edge.due(Edge.empty(), "summer(1, " + n + ", 1)", 0);
            Edge.due(Edge.ear("h00a;", Edge.NO_WARMTH), "summer(1, " + n + ", 0)", 0);
        }
        // also where there were wheels at the asking ahead
        CheeseEar x = Edge.ear("s00h", "");
        Edge.due(x, "summer(1, 0, 0)", 1);
        Edge.due(x, "summer(1, 0, 1)", 1);
        Edge.due(Edge.after(x, "wipe(0)"), "summer(1, 0, 0)", 0);
        Edge.due(x, "summer(1, 0, 1)", 0);
        Edge.allRefused(Edge::lived, Edge.BAD, "summer(0, -1, 0)", "summer(0, 31, 0)", "summer(0, 0, -1)", "summer(0, 0, 2)");
        Edge.farRefused(Edge::lived, "summer(0, ?, 0)", Edge.BAD);
        Edge.farRefused(Edge::lived, "summer(0, 0, ?)", Edge.BAD);
        Edge.allRefused(Edge::empty, Edge.BAD, "summer(0, 31, 0)", "summer(0, 0, 2)");
        // any number is a seed
        for (int far : Check.WRONG_INTS) {
            Edge.due(Edge.ear("h00abcde", "", "set(0, 20)"), "summer(" + far + ", 0, 0)", 30);
        }
    }
}

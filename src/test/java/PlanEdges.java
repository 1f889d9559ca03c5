/** Boundary cases of promises 18 to 21: turnings by which one is ripe, the colder night, the night to come, the sale. */
final class PlanEdges {
    private PlanEdges() {
    }

    // ---- 18: ripe

    private static void ripeDue(CheeseEar x, int wheel, int night, int many, int first, int second) {
        String call = "ripe(" + wheel + ", " + night + ", ";
        Edge.due(x, call + "-1)", many);
        Edge.due(x, call + "0)", first);
        Edge.due(x, call + "1)", second);
    }

    private static void notRipe(CheeseEar x, int wheel, int night) {
        ripeDue(x, wheel, night, Edge.NONE, Edge.NONE, Edge.NONE);
    }

    @Says(promise = 18, value = "RIPE for a WHEEL on a NIGHT: the fewest TURNINGS more (0 to 2) of it")
    static void noneToTwoTurningsMore() {
        // by 7 each night; its last sound is heard at ages 8 to 15
        CheeseEar x = Edge.ear("s00ab", "");
        notRipe(x, 0, 0);
        ripeDue(x, 0, 1, 0, Edge.NONE, Edge.NONE);
        ripeDue(x, 0, 2, 1, 0, Edge.NONE);
        ripeDue(x, 0, 3, 2, 0, 1);
        // three would be needed
        notRipe(x, 0, 4);
        notRipe(x, 0, 29);
        // they are more than those that there are: a turning on night 0 again would change nothing
        Edge.after(x, "turning(0, 0)");
        ripeDue(x, 0, 2, 0, Edge.NONE, Edge.NONE);
        ripeDue(x, 0, 3, 1, 1, Edge.NONE);
        ripeDue(x, 0, 4, 2, 1, 2);
        notRipe(x, 0, 5);
        // and of it: another wheel's change nothing; a blue one heeds none
        CheeseEar two = Edge.ear("s00ab;s00ab;b00ab", "", "turning(0, 0)");
        ripeDue(two, 1, 2, 1, 0, Edge.NONE);
        ripeDue(two, 2, 1, 0, Edge.NONE, Edge.NONE);
        notRipe(two, 2, 2);
        Edge.due(two, "count(4)", 1);
    }

    @Says(promise = 18, value = "on NIGHTS 0 to 29, by which its last SOUND (as they are told) is HEARD on that NIGHT")
    static void turningsOnNights0To29() {
        ripeDue(Edge.ear("s00a", "9"), 0, 0, 1, 0, Edge.NONE);
        String last = Edge.NO_WARMTH.substring(1) + "9";
        ripeDue(Edge.ear("s00a", last), 0, 28, 0, Edge.NONE, Edge.NONE);
        ripeDue(Edge.ear("s00a", last), 0, 29, 1, 29, Edge.NONE);
        ripeDue(Edge.ear("s00a", Edge.NO_WARMTH.substring(2) + "99"), 0, 29, 2, 28, 29);
        ripeDue(Edge.ear("s00a", "9" + Edge.NO_WARMTH.substring(2) + "9"), 0, 29, 2, 0, 29);
        // a hard one heeds a turning on the night ahead of its own: by 5 and 2 in place of 2 and 2
        ripeDue(Edge.ear("h05ab", "", "set(0, 7)"), 0, 6, 1, 4, Edge.NONE);
        ripeDue(Edge.ear("h00ab", "", "set(0, 7)"), 0, 1, 1, 0, Edge.NONE);
        // ahead of its own night it is not heard, whatever is turned
        notRipe(Edge.ear("s05a", ""), 0, 4);
        ripeDue(Edge.ear("s05a", ""), 0, 5, 0, Edge.NONE, Edge.NONE);
        notRipe(Edge.ear("h19a", ""), 0, 18);
        ripeDue(Edge.ear("h19a", Edge.NO_WARMTH), 0, 29, 0, Edge.NONE, Edge.NONE);
        // the last sound, not an earlier one with its letter
        CheeseEar again = Edge.ear("s00aba", "");
        notRipe(again, 0, 0);
        notRipe(again, 0, 1);
        ripeDue(again, 0, 2, 0, Edge.NONE, Edge.NONE);
        // heard on the night on which it is eaten, and not behind that
        CheeseEar eaten = Edge.ear("s00ah", "");
        ripeDue(eaten, 0, 1, 0, Edge.NONE, Edge.NONE);
        ripeDue(eaten, 0, 2, 1, 0, Edge.NONE);
        notRipe(Edge.ear("s00ha", ""), 0, 1);
    }

    @Says(promise = 18, value = "of like ones the least row (each more than the one ahead): how many; the i-th NIGHT; NONE.")
    static void theLeastRow() {
        // by 1, 4, 10 and 13, heard last at ages 10 to 14: 28 less 14, by nights 0 and 3 or 1 and 2; nights 1 and 3 would do, too
        CheeseEar x = Edge.ear("s00abc", "1379", "set(0, 5)");
        ripeDue(x, 0, 3, 2, 0, 3);
        // one is fewer than two, though its night is later: by 3, 3 and 9, heard at ages 0 to 7
        ripeDue(Edge.ear("s00a", "226"), 0, 2, 1, 2, Edge.NONE);
        // of single ones the least that will do: not night 0 (by 1), but night 1 (by 7); night 2 (by 6) would not do
        ripeDue(Edge.ear("s00a", "154"), 0, 2, 1, 1, Edge.NONE);
        // each more than the one ahead: never the same night twice
        ripeDue(Edge.ear("s00a", "099"), 0, 2, 2, 1, 2);
    }

    @Says(promise = 18, value = "RIPE: how many (i = NONE), the i-th (0, 1; NONE); NONE. BAD.")
    static void ripeRefuses() {
        Edge.allRefused(Edge::lived, Edge.BAD, "ripe(-1, 0, -1)", "ripe(3, 0, -1)", "ripe(8, 0, -1)", "ripe(0, -1, -1)", "ripe(0, 30, -1)",
            "ripe(0, 0, -2)", "ripe(0, 0, 2)");
        Edge.farRefused(Edge::lived, "ripe(?, 0, -1)", Edge.BAD);
        Edge.farRefused(Edge::lived, "ripe(0, ?, -1)", Edge.BAD);
        Edge.farRefused(Edge::lived, "ripe(0, 0, ?)", Edge.BAD);
        Edge.refused(Edge::empty, "ripe(0, 0, -1)", Edge.BAD);
        Edge.due(Edge.full(), "ripe(8, 0, -1)", Edge.BAD);
        ripeDue(Edge.ear(Edge.EIGHT_SHORT, ""), 7, 7, 0, Edge.NONE, Edge.NONE);
    }

    // ---- 19: cold

    private static void coldDue(CheeseEar x, int night, int many) {
        Edge.due(x, "cold(0, 0)", night);
        Edge.due(x, "cold(0, 1)", many);
    }

    @Says(promise = 19, value = "COLD for a WHEEL: the NIGHT (0 to 29) that had better have a WARMTH of 0, so that it is HEARD on most NIGHTS, of like ones the least: which; on how many.")
    static void theColderNight() {
        // night 0: by 1 in place of 10, and so heard on nights 0 and 1
        coldDue(Edge.ear("b00a", "95"), 0, 2);
        // night 29: ages 1 to 10, and 20, which is over, but 11 by the cold
        coldDue(Edge.ear("b19abcd", Edge.NO_WARMTH.substring(1) + "9", "set(0, 4)"), 29, 11);
        // of nights 3 and 4 the least
        coldDue(Edge.ear("s03a", ""), 3, 2);
        // none is better: all nights; no night
        coldDue(Edge.ear("h00a", Edge.NO_WARMTH), 0, 30);
        coldDue(Edge.ear("b07a", "", "set(0, 1)"), 0, 0);
        // a WARMTH of 0, not a lesser one: by 2 in place of 7, with a knock
        coldDue(Edge.ear("s00a", "5555", "knock(0, 0)"), 0, 1);
        coldDue(Edge.ear("s00a", "4000009", "knock(0, 0)"), 0, 6);
        // the cold stays thought of
        CheeseEar x = Edge.ear("b00a", "95", "cold(0, 0)");
        Edge.due(x, "warm(0)", 9);
        Edge.due(x, "longs(0)", 0);
        Edge.due(x, "at(0, 0, 0)", 10);
    }

    @Says(promise = 19, value = "COLD: which (what = 0), on how many (1). BAD.")
    static void coldRefuses() {
        Edge.allRefused(Edge::lived, Edge.BAD, "cold(-1, 0)", "cold(3, 0)", "cold(8, 0)", "cold(0, -1)", "cold(0, 2)");
        Edge.farRefused(Edge::lived, "cold(?, 0)", Edge.BAD);
        Edge.farRefused(Edge::lived, "cold(0, ?)", Edge.BAD);
        Edge.refused(Edge::empty, "cold(0, 0)", Edge.BAD);
        Edge.due(Edge.full(), "cold(8, 0)", Edge.BAD);
        Edge.due(Edge.ear(Edge.EIGHT_SHORT, ""), "cold(7, 1)", 1);
    }

    // ---- 20: come

    private static void comeDue(CheeseEar x, int night, int moment) {
        Edge.due(x, "come(0, 0)", night);
        Edge.due(x, "come(0, 1)", moment);
    }

    @Says(promise = 20, value = "COME for a WHEEL: the NIGHT (0 to 19), in place of its own, by which it is HEARD on NIGHT 29 with the greatest MOMENT, of like ones the least: which; that MOMENT; NONE: by none.")
    static void theNightToCome() {
        // by 7 each night: 77 from night 19, 84 from night 18; over at 100, 80, 75
        comeDue(Edge.ear("s01abcde", "", "set(0, 20)"), 16, 4);
        comeDue(Edge.ear("s01abcde", "", "set(0, 16)"), 19, 4);
        comeDue(Edge.ear("s01abcde", "", "set(0, 15)"), Edge.NONE, Edge.NONE);
        // in place of its own, whichever that is
        comeDue(Edge.ear("s19abcde", "", "set(0, 20)"), 16, 4);
        // from night 0: by 1 each night, 30 on night 29, and 20 from night 10
        comeDue(Edge.ear("b19abcde", Edge.NO_WARMTH, "set(0, 20)"), 0, 1);
        comeDue(Edge.ear("b19abcde", Edge.NO_WARMTH, "set(0, 10)"), 0, 3);
        // moment 0 is heard, too
        comeDue(Edge.ear("h07a", Edge.NO_WARMTH), 0, 0);
        // not from night 20, by which it would be heard: 66 from night 19, 60 from night 20
        comeDue(Edge.ear("b00abcde", "", "set(0, 13)"), Edge.NONE, Edge.NONE);
        // eaten on night 29 it is heard then; eaten earlier it is gone
        comeDue(Edge.ear("s07ah", Edge.NO_WARMTH.substring(1) + "9"), 0, 1);
        comeDue(Edge.ear("h00h", Edge.NO_WARMTH), Edge.NONE, Edge.NONE);
        // its own night stays
        Edge.due(Edge.ear("s01abcde", "", "come(0, 0)"), "wheel(0, 1)", 1);
    }

    @Says(promise = 20, value = "COME: which (what = 0), the MOMENT (1); NONE. BAD.")
    static void comeRefuses() {
        Edge.allRefused(Edge::lived, Edge.BAD, "come(-1, 0)", "come(3, 0)", "come(8, 0)", "come(0, -1)", "come(0, 2)");
        Edge.farRefused(Edge::lived, "come(?, 0)", Edge.BAD);
        Edge.farRefused(Edge::lived, "come(0, ?)", Edge.BAD);
        Edge.refused(Edge::empty, "come(0, 0)", Edge.BAD);
        Edge.due(Edge.full(), "come(8, 0)", Edge.BAD);
        Edge.due(Edge.ear(Edge.EIGHT_SHORT, ""), "come(7, 0)", Edge.NONE);
    }

    // ---- 21: sale

    private static String alike(String wheel, int many) {
        return (wheel + ";").repeat(many - 1) + wheel;
    }

    @Says(promise = 21, value = "SALE: on each NIGHT one WHEEL at most is sold")
    static void oneOnEachNight() {
        for (int many = 1; many <= 8; many++) {
            // heard on night 0 alone
            Edge.due(Edge.ear(alike("s00a", many), ""), "sale()", 1);
            // heard on nights 0 to 3
            Edge.due(Edge.ear(alike("h00a", many), "4444", "set(0, 9)"), "sale()", Math.min(many, 4));
            // heard on the last night alone as the second sound
            Edge.due(Edge.ear(alike("s19ab", many), Edge.NO_WARMTH.substring(1) + "6"), "sale()", many + 1);
        }
    }

    @Says(promise = 21, value = "each once at most, for its MOMENT then and 1, if it is HEARD then, else for 0")
    static void eachOnce() {
        Edge.due(Edge.ear("h00a", Edge.NO_WARMTH), "sale()", 1);
        Edge.due(Edge.ear("s00ab", ""), "sale()", 2);
        for (int many = 1; many <= 5; many++) {
            Edge.due(Edge.ear("b00" + "abcde".substring(0, many), Edge.NO_WARMTH, "set(0, 2)"), "sale()", many);
        }
        // eaten on a night it is heard then, and sold
        Edge.due(Edge.ear("s00ah", ""), "sale()", 2);
        // over: for 0; not there yet: for 0; no wheels: nothing
        Edge.due(Edge.ear("s00a", "9"), "sale()", 0);
        Edge.due(Edge.ear("s19a", Edge.NO_WARMTH.substring(11) + "9"), "sale()", 0);
        Edge.due(Edge.empty(), "sale()", 0);
    }

    @Says(promise = 21, value = "(all are HEARD as if none was sold): the most that all may bring together.")
    static void theMostOfAll() {
        // eight nights of the fifth sound for eight wheels: 8 by 5 is the most of all; ages 80 on night 7 to 99 on night 26
        Edge.due(Edge.ear(alike("b00abcde", 8), "99999999" + Edge.NO_WARMTH.substring(8), "set(0, 20)"), "sale()", 40);
        // the dearest of one must wait for what is dearer in all: night 1 for either
        Edge.due(Edge.ear("s00abc;s01ab", "59"), "sale()", 3);
        Edge.due(Edge.ear("s00abc;s01abc", "59"), "sale()", 6);
        // one that cries on night 0 is sold on it, the others on other nights
        Edge.due(Edge.ear("s00h;s00ah;s00aah", ""), "sale()", 6);
        // nothing is sold by the asking
        CheeseEar x = Edge.ear("s00h", "");
        Edge.due(x, "sale()", 1);
        Edge.due(x, "sale()", 1);
    }

    @Says(promise = 21, value = "SALE.")
    static void saleOfWhatThereIsNow() {
        CheeseEar x = Edge.ear("s00abc;s01abc;", "59");
        Edge.due(x, "sale()", 0);
        Edge.due(Edge.after(x, "undo(0)"), "sale()", 6);
        // what a wheel would have brought is not brought when it is over, or no longer there
        Edge.due(Edge.after(x, "set(0, 1)"), "sale()", 0);
        Edge.due(Edge.after(x, "set(0, 8)", "wipe(0)"), "sale()", 0);
    }
}

/** Boundary cases of promises 22 to 26: what was listened, and what may have been. */
final class ClueEdges {
    private static final int ALL_COMINGS = (1 << 20) - 1;

    private ClueEdges() {
    }

    // ---- 22: listen

    @Says(promise = 22, value = "LISTENED, 8 at most: on a NIGHT a WHEEL (0 to 7; one that there is not: never) was HEARD as a letter (0 to 7; 8: nothing).")
    static void eightListened() {
        CheeseEar x = Edge.ear("s00a", "");
        for (int i = 1; i <= 7; i++) {
            Edge.due(x, "listen(0, 0, 0)", i);
        }
        Edge.due(x, "was(0, 0)", 1);
        // the eighth counts as well, and no ninth comes
        Edge.due(x, "listen(1, 0, 0)", 8);
        Edge.due(x, "was(0, 0)", 0);
        Edge.due(x, "listen(1, 0, 0)", Edge.FULL);
        Edge.due(x, "count(7)", 8);
        for (int letter = 0; letter <= 8; letter++) {
            Edge.due(new CheeseEar(), "listen(0, 0, " + letter + ")", 1);
        }
        for (int w = 0; w <= 7; w++) {
            Edge.due(new CheeseEar(), "listen(0, " + w + ", 0)", 1);
        }
    }

    @Says(promise = 22, value = "was HEARD as a letter (0 to 7; 8: nothing)")
    static void lettersAndNothing() {
        for (int letter = 0; letter <= 7; letter++) {
            for (int told = 0; told <= 8; told++) {
                CheeseEar x = Edge.ear("s03" + (char) ('a' + letter), "", "turning(29, 0)", "listen(3, 0, " + told + ")");
                Edge.due(x, "never()", told == letter ? 1 : 0);
                // not there yet, and over: nothing
                Edge.due(Edge.after(x, "forget()", "listen(2, 0, " + told + ")"), "never()", told == 8 ? 1 : 0);
                Edge.due(Edge.after(x, "forget()", "listen(4, 0, " + told + ")"), "never()", told == 8 ? 1 : 0);
            }
        }
        // gone: nothing
        Edge.due(Edge.ear("h03h", Edge.NO_WARMTH, "turning(29, 0)", "listen(4, 0, 8)"), "never()", 1);
    }

    @Says(promise = 22, value = "NIGHTS are 0 to 29.")
    static void listenedOnNights0To29() {
        Edge.due(new CheeseEar(), "listen(0, 0, 0)", 1);
        Edge.due(new CheeseEar(), "listen(29, 0, 0)", 1);
        String last = Edge.NO_WARMTH.substring(1) + "6";
        Edge.due(Edge.ear("s00ab", last, "turning(20, 0)", "listen(29, 0, 1)"), "never()", 1);
        Edge.due(Edge.ear("s00ab", last, "turning(20, 0)", "listen(29, 0, 0)"), "never()", 0);
        Edge.due(Edge.ear("s00ab", last, "turning(20, 0)", "listen(28, 0, 0)"), "never()", 1);
    }

    @Says(promise = 22, value = "LISTENED more: how many. BAD; FULL.")
    static void listenRefuses() {
        Edge.allRefused(Edge::lived, Edge.BAD, "listen(-1, 0, 0)", "listen(30, 0, 0)", "listen(0, -1, 0)", "listen(0, 8, 0)", "listen(0, 0, -1)",
            "listen(0, 0, 9)");
        Edge.farRefused(Edge::lived, "listen(?, 0, 0)", Edge.BAD);
        Edge.farRefused(Edge::lived, "listen(0, ?, 0)", Edge.BAD);
        Edge.farRefused(Edge::lived, "listen(0, 0, ?)", Edge.BAD);
        Edge.allRefused(Edge::full, Edge.FULL, "listen(0, 0, 0)", "listen(29, 7, 8)");
        // BAD is told ahead of FULL
        Edge.allRefused(Edge::full, Edge.BAD, "listen(30, 0, 0)", "listen(-1, 0, 0)", "listen(0, 8, 0)", "listen(0, -1, 0)", "listen(0, 0, 9)",
            "listen(0, 0, -1)");
    }

    // ---- 23: forget

    @Says(promise = 23, value = "All that was LISTENED is forgotten: how many.")
    static void forgetNoneToEight() {
        Edge.due(new CheeseEar(), "forget()", 0);
        for (int many = 0; many <= 8; many++) {
            CheeseEar x = Edge.ear("s00a", "", "turning(0, 0)");
            for (int i = 0; i < many; i++) {
                Edge.after(x, "listen(0, 0, 7)");
            }
            Edge.due(x, "never()", many == 0 ? 1 : 0);
            Edge.due(x, "forget()", many);
            Edge.due(x, "never()", 1);
            Edge.due(x, "count(7)", 0);
            Edge.due(x, "forget()", 0);
            Edge.due(x, "listen(0, 0, 0)", 1);
        }
        // turnings are not forgotten
        Edge.due(Edge.after(Edge.full(), "forget()"), "count(4)", 8);
    }

    // ---- 24: never

    @Says(promise = 24, value = "NEVER: TURNINGS each of which, had it alone not been, makes all that was LISTENED come out so, as bits.")
    static void turningsThatNeverWere() {
        // turned on night 0 a wheel is heard on night 1 still; else it is over by then
        for (int which = 0; which <= 7; which++) {
            CheeseEar x = Edge.ear("s00a;s00a;s00a;s00a;s00a;s00a;s00a;s00a", "");
            for (int w = 0; w <= 7; w++) {
                Edge.after(x, "turning(0, " + w + ")");
            }
            Edge.due(x, "never()", 255);
            Edge.due(Edge.after(x, "listen(1, " + which + ", 8)"), "never()", 1 << which);
            // all that was listened: of two wheels at once it cannot be
            Edge.due(Edge.after(x, "listen(1, " + (which + 1) % 8 + ", 8)"), "never()", 0);
        }
        // each of them by itself, and alone: two on one night, of which one stays
        CheeseEar twice = Edge.ear("s00a", "", "turning(0, 0)", "turning(0, 0)", "listen(1, 0, 8)");
        Edge.due(twice, "never()", 0);
        Edge.due(Edge.after(twice, "back(0)"), "never()", 1);
        // without turnings there is none that never was
        Edge.due(Edge.empty(), "never()", 0);
        Edge.due(Edge.ear("s00a", "", "listen(0, 0, 0)"), "never()", 0);
        // nothing was listened: each will do, also of a wheel that there is not
        Edge.due(Edge.ear("s00a", "", "turning(0, 0)", "turning(29, 7)"), "never()", 3);
        Edge.due(Edge.ear("", "", "turning(0, 0)"), "never()", 1);
        // it comes out so already: each that changes nothing of it
        Edge.due(Edge.ear("s00a", "", "turning(0, 0)", "turning(29, 7)", "turning(28, 0)", "listen(1, 0, 0)"), "never()", 6);
    }

    @Says(promise = 24, value = "(0 to 7; one that there is not: never)")
    static void aWheelThatThereIsNotNeverComesOutSo() {
        for (int letter = 0; letter <= 8; letter++) {
            for (int w = 1; w <= 7; w++) {
                CheeseEar x = Edge.ear("s00a", "", "turning(29, 0)", "listen(0, " + w + ", " + letter + ")");
                Edge.due(x, "never()", 0);
            }
        }
        // with a fault there is no wheel at all
        CheeseEar y = Edge.ear("s00a;", "", "turning(29, 0)", "listen(1, 0, 8)");
        Edge.due(y, "never()", 0);
        Edge.due(Edge.after(y, "undo(0)"), "never()", 1);
    }

    @Says(promise = 24, value = "NEVER, as bits.")
    static void neverOfTheEighthTurning() {
        CheeseEar x = Edge.ear("s00a", "");
        for (int i = 0; i < 7; i++) {
            Edge.after(x, "turning(29, 0)");
        }
        Edge.after(x, "turning(0, 0)", "listen(1, 0, 8)");
        Edge.due(x, "never()", 128);
        Edge.due(Edge.after(x, "back(0)"), "never()", 127);
    }

    // ---- 25: was

    @Says(promise = 25, value = "FROM of a WHEEL: NIGHTS (0 to 19), in place of its own, likewise, as bits.")
    static void comingsByWhatWasListened() {
        Edge.due(Edge.ear("s00a", ""), "was(0, 0)", ALL_COMINGS);
        Edge.due(Edge.ear("s19a", ""), "was(0, 0)", ALL_COMINGS);
        // heard on the night on which it comes, and on no other
        for (int night = 0; night < 30; night++) {
            CheeseEar x = Edge.ear("s07a", "", "listen(" + night + ", 0, 0)");
            Edge.due(x, "was(0, 0)", night <= 19 ? 1 << night : 0);
            Edge.due(Edge.after(x, "forget()", "listen(" + night + ", 0, 8)"), "was(0, 0)", night <= 19 ? ALL_COMINGS - (1 << night) : ALL_COMINGS);
        }
        // likewise: all that was listened, of other wheels too, as they are told
        for (int w = 0; w <= 1; w++) {
            CheeseEar two = Edge.ear("s00a;s00a", "", "listen(0, " + (1 - w) + ", 0)");
            Edge.due(two, "was(" + w + ", 0)", ALL_COMINGS);
            Edge.after(two, "listen(1, " + (1 - w) + ", 0)");
            Edge.due(two, "was(0, 0)", 0);
            Edge.due(two, "was(1, 0)", 0);
        }
        // each by its own
        CheeseEar both = Edge.ear("s00a;s05b", "", "listen(0, 0, 0)", "listen(5, 1, 1)");
        Edge.due(both, "was(0, 0)", 1);
        Edge.due(both, "was(1, 0)", 1 << 5);
        // in place of its own: that stays
        Edge.due(both, "wheel(1, 1)", 5);
        Edge.due(Edge.ear("s00a", "", "listen(0, 7, 8)"), "was(0, 0)", 0);
    }

    @Says(promise = 25, value = "SORT of a WHEEL: 0 h, 1 s, 2 b, in place of its own, likewise, as bits.")
    static void sortsByWhatWasListened() {
        String sorts = "hsb";
        for (int sort = 0; sort < 3; sort++) {
            // ages 2, 4 of a hard one, 7, 14 of a soft one, 6, 12 of a blue one; by TIME 7
            String wheel = sorts.charAt(sort) + "00abc";
            Edge.due(Edge.ear(wheel, ""), "was(0, 1)", 7);
            Edge.due(Edge.ear(wheel, "", "set(0, 7)", "listen(1, 0, 0)"), "was(0, 1)", 1);
            Edge.due(Edge.ear(wheel, "", "set(0, 7)", "listen(1, 0, 2)"), "was(0, 1)", 2);
            Edge.due(Edge.ear(wheel, "", "set(0, 7)", "listen(1, 0, 1)"), "was(0, 1)", 4);
            Edge.due(Edge.ear(wheel, "", "set(0, 7)", "listen(0, 0, 0)"), "was(0, 1)", 5);
            Edge.due(Edge.ear(wheel, "", "set(0, 7)", "listen(0, 0, 8)"), "was(0, 1)", 0);
            Edge.due(Edge.ear(wheel, "", "listen(0, 0, 0)", "was(0, 1)"), "wheel(0, 0)", sort);
        }
        for (int w = 0; w <= 1; w++) {
            CheeseEar two = Edge.ear("s00a;s00a", "", "listen(0, " + (1 - w) + ", 0)");
            Edge.due(two, "was(" + w + ", 1)", 7);
            Edge.due(Edge.after(two, "listen(1, " + (1 - w) + ", 0)"), "was(" + w + ", 1)", 0);
        }
        Edge.due(Edge.ear("s00a", "", "listen(0, 7, 8)"), "was(0, 1)", 0);
    }

    @Says(promise = 25, value = "FROM (what = 0), SORT (1), as bits. BAD.")
    static void wasRefuses() {
        Edge.allRefused(Edge::lived, Edge.BAD, "was(-1, 0)", "was(3, 0)", "was(8, 0)", "was(0, -1)", "was(0, 2)");
        Edge.farRefused(Edge::lived, "was(?, 0)", Edge.BAD);
        Edge.farRefused(Edge::lived, "was(0, ?)", Edge.BAD);
        Edge.refused(Edge::empty, "was(0, 0)", Edge.BAD);
        Edge.due(Edge.full(), "was(8, 0)", Edge.BAD);
        Edge.due(Edge.ear(Edge.EIGHT_SHORT, ""), "was(7, 0)", ALL_COMINGS);
    }

    // ---- 26: ask

    @Says(promise = 26, value = "ASK of a WHEEL: the NIGHT on which the greatest number of NIGHTS of FROM by which it is HEARD alike (or not) is least, of like ones the least.")
    static void theNightToListen() {
        // each of nights 0 to 19 tells one from nineteen: the least
        Edge.due(Edge.ear("s07a", ""), "ask(0)", 0);
        // night 0 tells nothing more
        Edge.due(Edge.ear("s07a", "", "listen(0, 0, 8)"), "ask(0)", 1);
        // no night of FROM is left, and one alone: all nights are alike
        Edge.due(Edge.ear("s07a", "", "listen(29, 0, 0)"), "ask(0)", 0);
        Edge.due(Edge.ear("s07a", "", "listen(7, 0, 0)"), "ask(0)", 0);
        Edge.due(Edge.ear("s07a", "", "listen(7, 1, 8)"), "ask(0)", 0);
        // over at once but from night 19: night 19 alone tells
        Edge.due(Edge.ear("s00a", "9999999999999999999"), "ask(0)", 19);
        // heard to the end from any night: on night 9 ten have come and ten have not
        for (char letter = 'a'; letter <= 'h'; letter++) {
            CheeseEar x = Edge.ear("h00" + letter, Edge.NO_WARMTH, "set(1, 8)");
            Edge.due(x, "ask(0)", 9);
            // and of nineteen nine have come on night 8, ten on night 9: the least
            Edge.due(Edge.after(x, "listen(18, 0, " + (letter - 'a') + ")"), "ask(0)", 8);
        }
        // alike by the letter, though not by the sound: from 16 to 19 a is a
        CheeseEar same = Edge.ear("s00aaaaa", "", "set(0, 7)", "listen(19, 0, 0)");
        Edge.due(same, "was(0, 0)", 15 << 16);
        Edge.due(same, "ask(0)", 17);
        // not heard is alike, too: from 0 to 16, of which four are heard on night 3, each by its own letter, and thirteen are not
        CheeseEar other = Edge.ear("s00aabcd", "", "set(0, 7)", "listen(20, 0, 8)");
        Edge.due(other, "was(0, 0)", (1 << 17) - 1);
        Edge.due(other, "ask(0)", 3);
    }

    @Says(promise = 26, value = "ASK. BAD.")
    static void askRefuses() {
        Edge.allRefused(Edge::lived, Edge.BAD, "ask(-1)", "ask(3)", "ask(8)");
        Edge.farRefused(Edge::lived, "ask(?)", Edge.BAD);
        Edge.refused(Edge::empty, "ask(0)", Edge.BAD);
        Edge.due(Edge.full(), "ask(8)", Edge.BAD);
        Edge.due(Edge.ear(Edge.EIGHT_SHORT, ""), "ask(7)", 0);
    }
}

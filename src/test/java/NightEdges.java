/** Boundary cases of promises 13 to 17: a wheel on its nights, how long it is heard, screams, chords, hushes. */
final class NightEdges {
    private static final int ALL = (1 << 30) - 1;

    private NightEdges() {
    }

    // ---- 13: at

    @Says(promise = 13, value = "A WHEEL is in the cave from its NIGHT on; ahead of that its AGE is 0.")
    static void fromItsNightOn() {
        CheeseEar x = Edge.ear("s00abcde;s19abcde", "");
        Edge.due(x, "at(0, 0, 0)", 7);
        Edge.due(x, "at(0, 0, 2)", 1);
        for (int night = 0; night < 19; night++) {
            Edge.due(x, "at(" + night + ", 1, 0)", 0);
            Edge.due(x, "at(" + night + ", 1, 1)", Edge.NONE);
            Edge.due(x, "at(" + night + ", 1, 2)", 0);
        }
        Edge.due(x, "at(19, 1, 0)", 7);
        Edge.due(x, "at(19, 1, 1)", 0);
        Edge.due(x, "at(19, 1, 2)", 1);
        Edge.due(x, "at(29, 1, 0)", 77);
    }

    @Says(promise = 13, value = "On each NIGHT, from that one on, as long as it is not gone, its AGE first becomes more")
    static void firstItsAgeThenItsMoment() {
        // on its own night it has come by 13 already, which is its second sound
        CheeseEar x = Edge.ear("s00ab", "9");
        Edge.due(x, "at(0, 0, 0)", 13);
        Edge.due(x, "at(0, 0, 1)", 1);
        // one that is over is not gone: to the last night it becomes older
        CheeseEar y = Edge.ear("s00a", "999999999999999999999999999999");
        Edge.due(y, "at(1, 0, 2)", 2);
        Edge.due(y, "at(29, 0, 0)", 390);
        Edge.due(y, "at(29, 0, 2)", 2);
        // knocks and turnings ahead of its night leave a soft one as it is
        CheeseEar z = Edge.ear("s05a", "", "knock(4, 0)", "turning(4, 0)");
        Edge.due(z, "at(4, 0, 0)", 0);
        Edge.due(z, "at(5, 0, 0)", 7);
    }

    @Says(promise = 13, value = "of a hard one by how WARM it is then, if it is TURNED on that NIGHT, or was on the one ahead, else by half of that (cut)")
    static void aHardOne() {
        CheeseEar x = Edge.ear("h00abcde", "0123456789");
        // halves, cut: 0 0 1 1 2 2 3 3 4 4
        Edge.rowDue(x, 0, 0, 0, 0, 1, 2, 4, 6, 9, 12, 16, 20);
        Edge.after(x, "turning(3, 0)");
        // nights 3 and 4 whole, night 2 and night 5 half
        Edge.rowDue(x, 0, 0, 0, 0, 1, 4, 8, 10, 13);
        CheeseEar first = Edge.ear("h00abcde", "999", "turning(0, 0)");
        Edge.rowDue(first, 0, 0, 9, 18, 22);
        CheeseEar last = Edge.ear("h00abcde", Edge.NO_WARMTH.substring(1) + "9");
        Edge.due(last, "at(29, 0, 0)", 4);
        Edge.due(Edge.after(last, "turning(29, 0)"), "at(29, 0, 0)", 9);
        Edge.due(Edge.after(last, "back(0)", "turning(28, 0)"), "at(29, 0, 0)", 9);
        Edge.due(Edge.after(last, "back(0)", "turning(27, 0)"), "at(29, 0, 0)", 4);
        // two turnings for one night are no more than one
        CheeseEar twice = Edge.ear("h00abcde", "999", "turning(0, 0)", "turning(0, 0)", "turning(1, 0)");
        Edge.rowDue(twice, 0, 0, 9, 18, 27);
        // the night ahead of its own is the one ahead, too
        CheeseEar ahead = Edge.ear("h02abcde", "99999", "turning(1, 0)");
        Edge.rowDue(ahead, 0, 0, 0, 0, 9, 13);
        Edge.rowDue(Edge.after(ahead, "back(0)", "turning(0, 0)"), 0, 0, 0, 0, 4, 8);
    }

    @Says(promise = 13, value = "of a soft one by that, and half of it (cut), or by 0, if it is TURNED on that NIGHT")
    static void aSoftOne() {
        CheeseEar x = Edge.ear("s00abcde", "0123456789");
        // 0 1 3 4 6 7 9 10 12 13
        Edge.rowDue(x, 0, 0, 0, 1, 4, 8, 14, 21, 30, 40, 52, 65);
        Edge.after(x, "turning(3, 0)");
        Edge.rowDue(x, 0, 0, 0, 1, 4, 4, 10, 17);
        CheeseEar ends = Edge.ear("s00abcde", "", "turning(0, 0)", "turning(29, 0)");
        Edge.rowDue(ends, 0, 0, 0, 7, 14);
        Edge.due(ends, "at(28, 0, 0)", 196);
        Edge.due(ends, "at(29, 0, 0)", 196);
    }

    @Says(promise = 13, value = "of a blue one by that, and 1")
    static void aBlueOne() {
        CheeseEar x = Edge.ear("b00abcde", "09");
        Edge.rowDue(x, 0, 0, 1, 11, 17);
        Edge.rowDue(Edge.after(x, "turning(0, 0)", "turning(1, 0)"), 0, 0, 1, 11, 17);
    }

    @Says(promise = 13, value = "of each by 2 more with a KNOCK of it on that NIGHT (one or more)")
    static void knockedOnceOrMore() {
        String sorts = "hsb";
        for (int sort = 0; sort < 3; sort++) {
            CheeseEar x = Edge.ear(sorts.charAt(sort) + "00abcde", Edge.NO_WARMTH, "knock(1, 0)");
            int blue = sort == 2 ? 1 : 0;
            Edge.rowDue(x, 0, 0, blue, 2 + 2 * blue, 2 + 3 * blue);
            Edge.rowDue(Edge.after(x, "knock(1, 0)", "knock(1, 0)", "knock(1, 0)"), 0, 0, blue, 2 + 2 * blue, 2 + 3 * blue);
        }
        // a soft one that is turned comes by 0, and by 2 more
        Edge.rowDue(Edge.ear("s00a", "", "turning(0, 0)", "knock(0, 0)"), 0, 0, 2, 9);
    }

    @Says(promise = 13, value = "Its MOMENT is its AGE by TIME (cut)")
    static void theMomentIsCut() {
        // ages 7, 8, 15, 16, 23, 24, 31, 32, 39, 40
        CheeseEar x = Edge.ear("b00abcde", "6060606060");
        Edge.rowDue(x, 0, 0, 7, 8, 15, 16, 23, 24, 31, 32, 39, 40);
        Edge.rowDue(x, 0, 1, 0, 1, 1, 2, 2, 3, 3, 4, 4, Edge.NONE);
        // TIME 1: each age is a moment, 0 too
        CheeseEar y = Edge.ear("h00abcde", "0222222", "set(0, 1)");
        Edge.rowDue(y, 0, 1, 0, 1, 2, 3, 4, Edge.NONE);
        // TIME 20: to an age of 99
        CheeseEar z = Edge.ear("b00abcde", "99999999980", "set(0, 20)");
        Edge.due(z, "at(9, 0, 0)", 99);
        Edge.due(z, "at(9, 0, 1)", 4);
        Edge.due(z, "at(10, 0, 0)", 100);
        Edge.due(z, "at(10, 0, 2)", 2);
    }

    @Says(promise = 13, value = "if that is less than how many SOUNDS it has, that SOUND (0 on) is HEARD on that NIGHT; else it is OVER, and nothing is.")
    static void overFromItsNumberOfSoundsOn() {
        for (int many = 1; many <= 5; many++) {
            // by 8 each night: moment n + 1 on night n
            CheeseEar x = Edge.ear("b00" + "hgfed".substring(0, many), "777777777", "set(1, 8)");
            for (int night = 0; night < 6; night++) {
                boolean heard = night + 1 < many;
                Edge.due(x, "at(" + night + ", 0, 1)", heard ? 7 - (night + 1) : Edge.NONE);
                Edge.due(x, "at(" + night + ", 0, 2)", heard ? 1 : 2);
            }
        }
        // over on its own night already
        Edge.due(Edge.ear("s00a", "6"), "at(0, 0, 2)", 2);
        Edge.due(Edge.ear("s00a", "5"), "at(0, 0, 2)", 1);
    }

    @Says(promise = 13, value = "On a NIGHT on which a SOUND that SCREAMS is HEARD of it, a hard one, and a soft one, is EATEN, and gone behind that; a blue one is not.")
    static void whoScreamsIsEaten() {
        // a and then h: a hard one by 4, a soft one by 7, a blue one by 6 each night
        CheeseEar x = Edge.ear("h00ah;s00ah;b00ah", "88555");
        Edge.rowDue(x, 0, 2, 1, 3, 4, 4);
        CheeseEar y = Edge.ear("h00ah;s00ah;b00ah", "");
        Edge.rowDue(y, 1, 2, 1, 3, 4, 4);
        Edge.rowDue(y, 1, 1, 0, 7, Edge.NONE, Edge.NONE);
        Edge.rowDue(y, 2, 2, 1, 1, 2, 2);
        Edge.rowDue(y, 2, 1, 0, 7, Edge.NONE, Edge.NONE);
        // on its first night, and on the last
        Edge.rowDue(Edge.ear("s00h", ""), 0, 2, 3, 4, 4);
        CheeseEar last = Edge.ear("s19ah", Edge.NO_WARMTH.substring(1) + "9");
        Edge.due(last, "at(28, 0, 2)", 1);
        Edge.due(last, "at(29, 0, 2)", 3);
        Edge.due(last, "at(29, 0, 1)", 7);
        Edge.due(last, "count(6)", 1);
        // one that goes past its scream is never eaten: 7, then 20
        CheeseEar past = Edge.ear("s00ahb", "59");
        Edge.rowDue(past, 0, 2, 1, 1, 2, 2);
        // over is not eaten, though its last sound would scream
        Edge.due(Edge.ear("s00h", "9"), "at(0, 0, 2)", 2);
        Edge.due(Edge.ear("s00h", "9"), "count(6)", 0);
        // a blue one goes on behind its scream
        Edge.rowDue(Edge.ear("b00hab", ""), 0, 1, 7, 0, 1, Edge.NONE, Edge.NONE);
    }

    @Says(promise = 13, value = "its AGE (as it was last, if it is gone; 0: not there yet)")
    static void theAgeOfOneThatIsGone() {
        CheeseEar x = Edge.ear("s03ah", "", "knock(6, 0)", "knock(29, 0)");
        Edge.rowDue(x, 0, 0, 0, 0, 0, 7, 14, 14, 14, 14);
        Edge.due(x, "at(29, 0, 0)", 14);
        Edge.due(x, "at(29, 0, 2)", 4);
    }

    @Says(promise = 13, value = "what is HEARD (0 to 7; NONE)")
    static void heardIs0To7() {
        for (int letter = 0; letter <= 7; letter++) {
            CheeseEar x = Edge.ear("s01" + (char) ('a' + letter), "");
            Edge.rowDue(x, 0, 1, Edge.NONE, letter, Edge.NONE);
        }
    }

    @Says(promise = 13, value = "what it is: 0 not there yet, 1 it is HEARD, 2 it is OVER, 3 it is HEARD, and EATEN, 4 it is gone.")
    static void whatItIs() {
        CheeseEar x = Edge.ear("s02ah;s02aa", "");
        Edge.rowDue(x, 0, 2, 0, 0, 1, 3, 4, 4);
        Edge.rowDue(x, 1, 2, 0, 0, 1, 1, 2, 2);
        Edge.due(x, "at(29, 0, 2)", 4);
        Edge.due(x, "at(29, 1, 2)", 2);
    }

    @Says(promise = 13, value = "the letters from that on SCREAM (8: none)")
    static void lettersFromShrillOn() {
        for (int shrill = 0; shrill <= 8; shrill++) {
            for (int letter = 0; letter <= 7; letter++) {
                CheeseEar x = Edge.ear("s00" + (char) ('a' + letter), "", "set(1, " + shrill + ")");
                Edge.due(x, "at(0, 0, 2)", letter >= shrill ? 3 : 1);
                Edge.due(x, "at(1, 0, 2)", letter >= shrill ? 4 : 2);
            }
        }
    }

    @Says(promise = 13, value = "NIGHTS are 0 to 29.")
    static void atNights0To29() {
        CheeseEar x = Edge.ear("b00a", "");
        Edge.due(x, "at(0, 0, 0)", 6);
        Edge.due(x, "at(29, 0, 0)", 180);
        Edge.due(x, "at(-1, 0, 0)", Edge.BAD);
        Edge.due(x, "at(30, 0, 0)", Edge.BAD);
    }

    @Says(promise = 13, value = "Its AGE (what = 0), what is HEARD (1; NONE), what it is (2). BAD.")
    static void atRefuses() {
        Edge.allRefused(Edge::lived, Edge.BAD, "at(-1, 0, 0)", "at(30, 0, 0)", "at(0, -1, 0)", "at(0, 3, 0)", "at(0, 8, 0)", "at(0, 0, -1)",
            "at(0, 0, 3)");
        Edge.farRefused(Edge::lived, "at(?, 0, 0)", Edge.BAD);
        Edge.farRefused(Edge::lived, "at(0, ?, 0)", Edge.BAD);
        Edge.farRefused(Edge::lived, "at(0, 0, ?)", Edge.BAD);
        Edge.refused(Edge::empty, "at(0, 0, 0)", Edge.BAD);
        Edge.due(Edge.ear(Edge.EIGHT_SHORT, ""), "at(0, 7, 2)", 0);
        Edge.due(Edge.ear(Edge.EIGHT_SHORT, ""), "at(0, 8, 2)", Edge.BAD);
    }

    // ---- 14: longs

    @Says(promise = 14, value = "LONG of a WHEEL: on how many NIGHTS it is HEARD.")
    static void longsFrom0To30() {
        // over on its own night; to the last night; from night 19 on; the night on which it is eaten is one
        Edge.due(Edge.ear("b00a", "7"), "longs(0)", 0);
        Edge.due(Edge.ear("h00a", Edge.NO_WARMTH), "longs(0)", 30);
        Edge.due(Edge.ear("h19a", Edge.NO_WARMTH), "longs(0)", 11);
        Edge.due(Edge.ear("h00h", Edge.NO_WARMTH), "longs(0)", 1);
        Edge.due(Edge.ear("s00ah", ""), "longs(0)", 2);
        Edge.due(Edge.ear("b00ah", ""), "longs(0)", 2);
        Edge.due(Edge.ear("b00h", Edge.NO_WARMTH), "longs(0)", 7);
        // the age at which it is over is 100 at most: ages 1 to 30
        Edge.due(Edge.ear("b00abcde", Edge.NO_WARMTH, "set(0, 6)"), "longs(0)", 29);
        Edge.due(Edge.ear("b00abcde", Edge.NO_WARMTH, "set(0, 7)"), "longs(0)", 30);
    }

    @Says(promise = 14, value = "LONG. BAD.")
    static void longsRefuses() {
        Edge.allRefused(Edge::lived, Edge.BAD, "longs(-1)", "longs(3)", "longs(8)");
        Edge.farRefused(Edge::lived, "longs(?)", Edge.BAD);
        Edge.refused(Edge::empty, "longs(0)", Edge.BAD);
        Edge.due(Edge.full(), "longs(8)", Edge.BAD);
        Edge.due(Edge.ear(Edge.EIGHT_SHORT, ""), "longs(7)", 1);
    }

    // ---- 15: scream

    private static void screamDue(CheeseEar x, int night, int wheel) {
        Edge.due(x, "scream(0)", night);
        Edge.due(x, "scream(1)", wheel);
    }

    @Says(promise = 15, value = "SCREAM: the first NIGHT on which one SCREAMS; the least WHEEL that does; NONE.")
    static void theFirstScream() {
        screamDue(Edge.ear("s00h", ""), 0, 0);
        // of those of one night the least, also where a lesser one screams later
        screamDue(Edge.ear("s09h;s04h;b04h;h04h", ""), 4, 1);
        screamDue(Edge.ear("s09h;b04h;s04h", ""), 4, 1);
        screamDue(Edge.ear("s04h;s09h;s05h", ""), 4, 0);
        // the eighth, on the last night
        CheeseEar late = Edge.ear("h00a;h00a;h00a;h00a;h00a;h00a;h00a;s19ah", Edge.NO_WARMTH.substring(1) + "9");
        screamDue(late, 29, 7);
        screamDue(Edge.after(late, "turning(29, 7)"), Edge.NONE, Edge.NONE);
        // no wheels; none that screams; one that would, but is never heard so
        screamDue(Edge.empty(), Edge.NONE, Edge.NONE);
        screamDue(Edge.ear("s00abcde", ""), Edge.NONE, Edge.NONE);
        screamDue(Edge.ear("h00ah", Edge.NO_WARMTH), Edge.NONE, Edge.NONE);
        screamDue(Edge.ear("s00ahb", "59"), Edge.NONE, Edge.NONE);
        screamDue(Edge.ear("s00h", "9"), Edge.NONE, Edge.NONE);
    }

    @Says(promise = 15, value = "SHRILL (0 to 8; 7 at first): the letters from that on SCREAM (8: none).")
    static void screamByShrill() {
        for (int shrill = 0; shrill <= 8; shrill++) {
            for (int letter = 0; letter <= 7; letter++) {
                CheeseEar x = Edge.ear("b03" + (char) ('a' + letter), "", "set(1, " + shrill + ")");
                screamDue(x, letter >= shrill ? 3 : Edge.NONE, letter >= shrill ? 0 : Edge.NONE);
            }
        }
        screamDue(Edge.ear("b03h;b03g", ""), 3, 0);
        screamDue(Edge.ear("b03g;b03h", ""), 3, 1);
    }

    @Says(promise = 15, value = "SCREAM: the NIGHT (what = 0), the WHEEL (1); NONE. BAD.")
    static void screamRefuses() {
        Edge.allRefused(Edge::lived, Edge.BAD, "scream(-1)", "scream(2)");
        Edge.farRefused(Edge::lived, "scream(?)", Edge.BAD);
        Edge.allRefused(Edge::empty, Edge.BAD, "scream(-1)", "scream(2)");
    }

    // ---- 16: chord

    private static void chordDue(CheeseEar x, int letter, int night, int many) {
        Edge.due(x, "chord(" + letter + ", 0)", night);
        Edge.due(x, "chord(" + letter + ", 1)", many);
    }

    @Says(promise = 16, value = "CHORD of a letter: the first NIGHT on which it is HEARD of most WHEELS, of like ones the first: which; of how many; NONE: it never is.")
    static void chordsFromOneToEight() {
        // soft ones of one sound are heard on their own night alone
        chordDue(Edge.ear("s03a", ""), 0, 3, 1);
        chordDue(Edge.ear("s03a;s05a", ""), 0, 3, 1);
        chordDue(Edge.ear("s05a;s03a", ""), 0, 3, 1);
        chordDue(Edge.ear("s03a;s05a;s05a", ""), 0, 5, 2);
        chordDue(Edge.ear("s03a;s05a;s05a;s03a", ""), 0, 3, 2);
        chordDue(Edge.ear("s00a;s00a;s00a;s00a;s00a;s00a;s00a;s00a", ""), 0, 0, 8);
        // a letter twice in a wheel is one wheel
        chordDue(Edge.ear("s03aa;s06b", ""), 0, 3, 1);
        chordDue(Edge.ear("s03aa;s06b", ""), 1, 6, 1);
        // the last night alone: 0 warm up to then
        CheeseEar late = Edge.ear("s19ab;s19ac", Edge.NO_WARMTH.substring(1) + "6");
        chordDue(late, 1, 29, 1);
        chordDue(late, 2, 29, 1);
        chordDue(late, 0, 19, 2);
        chordDue(late, 3, Edge.NONE, Edge.NONE);
        chordDue(Edge.empty(), 0, Edge.NONE, Edge.NONE);
        chordDue(Edge.ear("s00a", "9"), 0, Edge.NONE, Edge.NONE);
    }

    @Says(promise = 16, value = "letters a to h (0 to 7)")
    static void chordsOfEachLetter() {
        CheeseEar x = Edge.ear("s01a;s02b;s03c;s04d;s05e;s06f;s07g;s08h", "");
        for (int letter = 0; letter <= 7; letter++) {
            chordDue(x, letter, letter + 1, 1);
        }
        Edge.due(x, "chord(-1, 0)", Edge.BAD);
        Edge.due(x, "chord(8, 0)", Edge.BAD);
    }

    @Says(promise = 16, value = "CHORD: which NIGHT (what = 0), of how many (1); NONE. BAD.")
    static void chordRefuses() {
        Edge.allRefused(Edge::lived, Edge.BAD, "chord(-1, 0)", "chord(8, 0)", "chord(0, -1)", "chord(0, 2)");
        Edge.farRefused(Edge::lived, "chord(?, 0)", Edge.BAD);
        Edge.farRefused(Edge::lived, "chord(0, ?)", Edge.BAD);
        Edge.allRefused(Edge::empty, Edge.BAD, "chord(8, 0)", "chord(0, 2)");
    }

    // ---- 17: hush

    @Says(promise = 17, value = "HUSH: NIGHTS on which none is HEARD, as bits.")
    static void hushFromNoneToAll() {
        Edge.due(Edge.empty(), "hush()", ALL);
        Edge.due(Edge.ear("h00a", Edge.NO_WARMTH), "hush()", 0);
        Edge.due(Edge.ear("s00a", "9"), "hush()", ALL);
        // night 0 alone; night 29 alone is silent; one of all is enough
        Edge.due(Edge.ear("s00a", ""), "hush()", ALL - 1);
        Edge.due(Edge.ear("h00a", Edge.NO_WARMTH, "knock(29, 0)", "knock(28, 0)", "knock(27, 0)", "knock(26, 0)"), "hush()", 1 << 29);
        Edge.due(Edge.ear("h01a", Edge.NO_WARMTH), "hush()", 1);
        Edge.due(Edge.ear("s03a;s00a;s19a", ""), "hush()", ALL - 1 - (1 << 3) - (1 << 19));
        // a night on which one is eaten is not silent, those behind it are
        Edge.due(Edge.ear("h00h", Edge.NO_WARMTH), "hush()", ALL - 1);
        Edge.due(Edge.ear("h00a;h00a;h00a;h00a;h00a;h00a;h00a;h00a", Edge.NO_WARMTH), "hush()", 0);
    }

    @Says(promise = 17, value = "HUSH, as bits.")
    static void hushHas30Bits() {
        Edge.due(Edge.empty(), "hush()", 1073741823);
        // with a fault there are no wheels to hear
        Edge.due(Edge.ear("h00a;", Edge.NO_WARMTH), "hush()", 1073741823);
        // to night 29, the thirtieth bit
        Edge.due(Edge.ear("h00a;", Edge.NO_WARMTH, "undo(0)", "undo(0)", "type(0, 97)"), "hush()", 0);
    }
}

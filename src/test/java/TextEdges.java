/** Boundary cases of promises 1 to 8: a new object, the two texts, wheels, the cave, TIME and SHRILL. */
final class TextEdges {
    private TextEdges() {
    }

    // ---- 1: a new object

    @Says(promise = 1, value = "No WHEELS")
    static void aNewObjectHasNoWheels() {
        CheeseEar x = new CheeseEar();
        for (int w = 0; w <= 8; w++) {
            Edge.due(x, "wheel(" + w + ", 0)", Edge.BAD);
            Edge.due(x, "longs(" + w + ")", Edge.BAD);
        }
        for (int what = 0; what <= 8; what++) {
            Edge.due(x, "count(" + what + ")", 0);
        }
        // another object's wheels are not its own
        Edge.due(Edge.full(), "count(0)", 8);
        Edge.due(x, "count(0)", 0);
        Edge.due(new CheeseEar(), "count(0)", 0);
    }

    @Says(promise = 1, value = "all SHEETS are LOST")
    static void aNewObjectHasLostSheets() {
        for (int s = 0; s <= 3; s++) {
            Edge.due(new CheeseEar(), "lose(" + s + ")", Edge.NULL);
            Edge.due(new CheeseEar(), "read(" + s + ")", Edge.NULL);
            Edge.due(new CheeseEar(), "put(" + s + ", 0, 0, 0)", Edge.NULL);
            Edge.due(new CheeseEar(), "copy(" + s + ", 0, " + s + ", 0, 0)", Edge.NULL);
            CheeseEar x = new CheeseEar();
            Edge.due(x, "get(" + s + ", 0, 0)", Edge.LEAST_INT);
            Edge.due(x, "count(8)", 1);
        }
    }

    @Says(promise = 1, value = "An object is used for at most 512 calls after it has been made")
    static void theLastOf512CallsAnswers() {
        CheeseEar x = new CheeseEar();
        for (int i = 0; i < 255; i++) {
            Edge.due(x, "type(0, 104)", 1);
            Edge.due(x, "undo(0)", 0);
        }
        Edge.due(x, "type(1, 55)", 1);
        Edge.due(x, "warm(0)", 7);
        CheeseEar y = Edge.full();
        long first = Edge.answer(y, "digest()");
        for (int call = 124; call <= 512; call++) {
            Edge.due(y, "digest()", first);
        }
    }

    // ---- 2: type

    @Says(promise = 2, value = "A byte (0 to 255) comes behind a text: how many.")
    static void bytesAre0To255() {
        for (int text = 0; text <= 1; text++) {
            CheeseEar x = new CheeseEar();
            Edge.due(x, "type(" + text + ", 0)", 1);
            Edge.due(x, "type(" + text + ", 255)", 2);
            Edge.allRefused(Edge::lived, Edge.BAD, "type(" + text + ", -1)", "type(" + text + ", 256)");
            Edge.farRefused(Edge::lived, "type(" + text + ", ?)", Edge.BAD);
        }
        // a byte that is no letter, figure or ; comes behind the text all the same, and makes a fault
        CheeseEar y = Edge.ear("h00a", "");
        Edge.due(y, "type(0, 255)", 5);
        Edge.due(y, "fault(0)", 4);
    }

    @Says(promise = 2, value = "WHEELS are a text of up to 71 bytes (text 0)")
    static void wheelsTake71Bytes() {
        CheeseEar x = new CheeseEar();
        for (int i = 1; i <= 71; i++) {
            Edge.due(x, "type(0, " + (int) Edge.LONGEST.charAt(i - 1) + ")", i);
        }
        Edge.due(x, "type(0, 59)", Edge.FULL);
        Edge.due(x, "count(2)", 71);
        Edge.due(x, "count(0)", 8);
        Edge.due(x, "wheel(7, 7)", 3);
        Edge.due(x, "undo(0)", 70);
        Edge.due(x, "type(0, 97)", 71);
        Edge.due(x, "type(0, 97)", Edge.FULL);
        Edge.due(x, "wheel(7, 7)", 0);
        // it is bytes that are 71 at most, well or not
        CheeseEar y = new CheeseEar();
        for (int i = 1; i <= 71; i++) {
            Edge.due(y, "type(0, 0)", i);
        }
        Edge.due(y, "type(0, 0)", Edge.FULL);
        // the other text has its own room
        Edge.due(y, "type(1, 48)", 1);
    }

    @Says(promise = 2, value = "THE CAVE is a text of up to 30 figures 0 to 9 (text 1)")
    static void theCaveTakes30Bytes() {
        CheeseEar x = new CheeseEar();
        for (int i = 1; i <= 30; i++) {
            Edge.due(x, "type(1, " + (i == 30 ? 57 : 48) + ")", i);
        }
        Edge.due(x, "type(1, 49)", Edge.FULL);
        Edge.due(x, "count(3)", 30);
        Edge.due(x, "count(1)", 30);
        Edge.due(x, "warm(29)", 9);
        Edge.due(x, "undo(1)", 29);
        Edge.due(x, "type(1, 51)", 30);
        Edge.due(x, "type(1, 51)", Edge.FULL);
        Edge.due(x, "warm(29)", 3);
        CheeseEar y = new CheeseEar();
        for (int i = 1; i <= 30; i++) {
            Edge.due(y, "type(1, 255)", i);
        }
        Edge.due(y, "type(1, 255)", Edge.FULL);
        Edge.due(y, "type(0, 104)", 1);
    }

    @Says(promise = 2, value = "BAD; FULL.")
    static void typeRefuses() {
        Edge.allRefused(Edge::lived, Edge.BAD, "type(-1, 48)", "type(2, 48)", "type(2, 256)");
        Edge.farRefused(Edge::lived, "type(?, 48)", Edge.BAD);
        Edge.allRefused(Edge::full, Edge.FULL, "type(0, 59)", "type(0, 0)", "type(1, 48)", "type(1, 255)");
        // BAD is told ahead of FULL
        Edge.allRefused(Edge::full, Edge.BAD, "type(0, 256)", "type(0, -1)", "type(1, 256)", "type(2, 48)", "type(-1, 48)");
    }

    // ---- 3: wipe

    @Says(promise = 3, value = "A text is empty: how many bytes it had.")
    static void wipeTellsHowManyBytesItHad() {
        CheeseEar x = Edge.full();
        Edge.due(x, "wipe(0)", 71);
        Edge.due(x, "count(1)", 30);
        Edge.due(x, "wipe(0)", 0);
        Edge.due(x, "wipe(1)", 30);
        Edge.due(x, "wipe(1)", 0);
        Edge.due(x, "fault(0)", Edge.NONE);
        Edge.due(x, "count(0)", 0);
        Edge.due(x, "warm(0)", 5);
        Edge.due(x, "type(0, 104)", 1);
        Edge.due(x, "wipe(0)", 1);
        // with a fault it is as if it was empty, but it had its bytes
        Edge.due(Edge.ear("xyz", ""), "wipe(0)", 3);
        Edge.due(Edge.ear("", "1x"), "wipe(1)", 2);
    }

    @Says(promise = 3, value = "BAD.")
    static void wipeRefuses() {
        Edge.allRefused(Edge::lived, Edge.BAD, "wipe(-1)", "wipe(2)");
        Edge.farRefused(Edge::lived, "wipe(?)", Edge.BAD);
    }

    // ---- 4: undo

    @Says(promise = 4, value = "The last byte of a text is undone: how many are left.")
    static void undoFromFullToNothing() {
        CheeseEar x = Edge.full();
        for (int left = 70; left >= 0; left--) {
            Edge.due(x, "undo(0)", left);
        }
        for (int left = 29; left >= 0; left--) {
            Edge.due(x, "undo(1)", left);
        }
        Edge.due(x, "count(0)", 0);
        Edge.due(x, "warm(0)", 5);
        CheeseEar y = Edge.ear("h00ab;", "79");
        Edge.due(y, "undo(0)", 5);
        Edge.due(y, "wheel(0, 2)", 2);
        Edge.due(y, "undo(0)", 4);
        Edge.due(y, "wheel(0, 2)", 1);
        Edge.due(y, "undo(1)", 1);
        Edge.due(y, "warm(0)", 7);
        Edge.due(y, "warm(1)", 5);
    }

    @Says(promise = 4, value = "BAD; NOT: it is empty.")
    static void undoRefuses() {
        Edge.allRefused(Edge::lived, Edge.BAD, "undo(-1)", "undo(2)");
        Edge.farRefused(Edge::lived, "undo(?)", Edge.BAD);
        Edge.allRefused(Edge::empty, Edge.NOT, "undo(0)", "undo(1)");
        Edge.refused(() -> Edge.ear("", "12"), "undo(0)", Edge.NOT);
        Edge.refused(() -> Edge.ear("h00a", ""), "undo(1)", Edge.NOT);
        Edge.refused(() -> Edge.ear("h", "", "undo(0)"), "undo(0)", Edge.NOT);
        Edge.refused(() -> Edge.ear("h00a", "", "wipe(0)"), "undo(0)", Edge.NOT);
        // with a fault a text is as if it was empty, but it has a byte to undo
        Edge.due(Edge.ear("x", ""), "undo(0)", 0);
        // BAD is told ahead of NOT
        Edge.allRefused(Edge::empty, Edge.BAD, "undo(-1)", "undo(2)");
    }

    // ---- 5: fault

    private static void faultDue(String text, long want) {
        Check.due("fault(0) of '" + text + "'", Edge.ear(text, "").fault(0), want);
    }

    private static void caveFaultDue(String text, long want) {
        Check.due("fault(1) of '" + text + "'", Edge.ear("", text).fault(1), want);
    }

    @Says(promise = 5, value = "an empty one is well")
    static void anEmptyTextIsWell() {
        for (int text = 0; text <= 1; text++) {
            String fault = "fault(" + text + ")";
            Edge.due(new CheeseEar(), fault, Edge.NONE);
            Edge.due(Edge.ear("xx", "xx", "wipe(" + text + ")"), fault, Edge.NONE);
            Edge.due(Edge.ear("x", "x", "undo(" + text + ")"), fault, Edge.NONE);
        }
    }

    @Says(promise = 5, value = "of one that is not ended, its end")
    static void aTextThatIsNotEnded() {
        for (String text : new String[] {"h", "s1", "b19", "h00a;", "h00a;s", "h00a;s0", "h00a;s09", "h00abcde;", Edge.EIGHT_SHORT + ";"}) {
            faultDue(text, text.length());
        }
        // the longest of all: eight wheels of 70 bytes and a ; are full, and not ended
        String most = Edge.LONGEST.substring(0, 70) + ";";
        faultDue(most, 71);
        Edge.due(Edge.ear(most, ""), "count(0)", 0);
        for (String ended : new String[] {"h00a", "h00abcde", "h00a;s19h", Edge.EIGHT_SHORT, Edge.LONGEST, Edge.LONGEST.substring(0, 67)}) {
            faultDue(ended, Edge.NONE);
        }
        // a cave may end anywhere
        for (int n = 0; n <= 30; n++) {
            caveFaultDue(Edge.THIRTY.substring(0, n), Edge.NONE);
        }
    }

    @Says(promise = 5, value = "here also of a sixth letter")
    static void aSixthLetter() {
        faultDue("h00abcde", Edge.NONE);
        faultDue("h00abcdef", 8);
        faultDue("h00abcdefgh", 8);
        faultDue("h00abcdef;s00a", 8);
        faultDue("h00a;s00aaaaaa", 13);
        faultDue(Edge.LONGEST.substring(0, 62) + "a", 62);
        Edge.due(Edge.ear("h00abcdef", ""), "count(0)", 0);
    }

    @Says(promise = 5, value = "of the first byte of a ninth")
    static void theFirstByteOfANinth() {
        faultDue(Edge.EIGHT_SHORT, Edge.NONE);
        faultDue(Edge.EIGHT_SHORT + ";h", 40);
        faultDue(Edge.EIGHT_SHORT + ";s00a", 40);
        faultDue(Edge.EIGHT_SHORT + ";b19abcde;h", 40);
        faultDue(Edge.EIGHT_SHORT + ";x", 40);
        faultDue(Edge.EIGHT_SHORT + ";;", 40);
        // without a ; it is a letter more of the eighth
        faultDue(Edge.EIGHT_SHORT + "h", Edge.NONE);
        Edge.due(Edge.ear(Edge.EIGHT_SHORT + ";h00a", ""), "count(0)", 0);
        Edge.due(Edge.ear(Edge.EIGHT_SHORT + ";h", "", "undo(0)", "undo(0)"), "count(0)", 8);
    }

    @Says(promise = 5, value = "The FAULT of a text is the place of the first byte with which it cannot go on")
    static void theFirstByteThatCannotBe() {
        faultDue("x", 0);
        faultDue("xh00a", 0);
        faultDue("hxx", 1);
        faultDue("h0xx", 2);
        faultDue("h00xx", 3);
        faultDue("h00axx", 4);
        faultDue("h00a;xx", 5);
        faultDue(Edge.LONGEST.substring(0, 70) + "i", 70);
        caveFaultDue("x", 0);
        caveFaultDue("x1x", 0);
        caveFaultDue("1x2x", 1);
        caveFaultDue(Edge.THIRTY.substring(0, 29) + "x", 29);
    }

    private static void onlyThese(String ahead, String these, int place) {
        for (int b = 0; b <= 255; b++) {
            CheeseEar x = Edge.ear(ahead, "", "type(0, " + b + ")");
            boolean refusedAt = x.fault(0) == place;
            Check.holds("byte " + b + " behind '" + ahead + "'", refusedAt == (these.indexOf(b) < 0));
        }
    }

    @Says(promise = 5, value = "h (hard), s (soft) or b (blue)")
    static void onlyThreeSorts() {
        onlyThese("", "hsb", 0);
        onlyThese("h00a;", "hsb", 5);
    }

    @Says(promise = 5, value = "a figure 0 or 1 and a figure, the NIGHT on which it comes (00 to 19)")
    static void onlyNights00To19() {
        onlyThese("s", "01", 1);
        onlyThese("s0", "0123456789", 2);
        onlyThese("s1", "0123456789", 2);
        for (int night = 0; night <= 99; night++) {
            String text = "b" + night / 10 + night % 10 + "a";
            faultDue(text, night <= 19 ? Edge.NONE : 1);
        }
    }

    @Says(promise = 5, value = "1 to 5 letters a to h (0 to 7), its SOUNDS (0 on).")
    static void onlyOneToFiveLetters() {
        onlyThese("h00", "abcdefgh", 3);
        onlyThese("h00a", "abcdefgh;", 4);
        onlyThese("h00abcd", "abcdefgh;", 7);
        onlyThese("h00abcde", ";", 8);
        faultDue("h00;", 3);
        faultDue("h00a;s00;", 8);
        faultDue("h00", 3);
    }

    @Says(promise = 5, value = "with ; between them")
    static void semicolonsStandBetween() {
        faultDue(";", 0);
        faultDue(";h00a", 0);
        faultDue("h00a;;s00a", 5);
        faultDue("h00a;s00b", Edge.NONE);
        // h is a letter too, so that only the figure cannot be
        faultDue("h00ah00a", 5);
        faultDue("h00as00a", 4);
        faultDue("h;", 1);
        faultDue("h0;", 2);
    }

    @Says(promise = 5, value = "figures 0 to 9 (text 1)")
    static void onlyFiguresInTheCave() {
        for (int b = 0; b <= 255; b++) {
            boolean figure = b >= '0' && b <= '9';
            Edge.due(Edge.ear("", "", "type(1, " + b + ")"), "fault(1)", figure ? Edge.NONE : 0);
            Edge.due(Edge.ear("", Edge.THIRTY.substring(0, 29), "type(1, " + b + ")"), "fault(1)", figure ? Edge.NONE : 29);
        }
    }

    @Says(promise = 5, value = "With a FAULT a text is as if it was empty.")
    static void aFaultLeavesTheOtherText() {
        CheeseEar x = Edge.ear("h00a;s05b;x", "12");
        Edge.due(x, "fault(1)", Edge.NONE);
        Edge.due(x, "count(0)", 0);
        Edge.due(x, "count(1)", 2);
        CheeseEar y = Edge.ear("h00a;s05b", "12x");
        Edge.due(y, "fault(0)", Edge.NONE);
        Edge.due(y, "count(0)", 2);
        Edge.due(y, "count(1)", 0);
        Edge.due(Edge.after(x, "undo(0)", "undo(0)"), "count(0)", 2);
        Edge.due(Edge.after(y, "undo(1)"), "count(1)", 2);
    }

    @Says(promise = 5, value = "The FAULT of a text; NONE. BAD.")
    static void faultRefuses() {
        Edge.allRefused(Edge::lived, Edge.BAD, "fault(-1)", "fault(2)");
        Edge.farRefused(Edge::lived, "fault(?)", Edge.BAD);
        Edge.due(Edge.lived(), "fault(0)", Edge.NONE);
        Edge.due(Edge.lived(), "fault(1)", Edge.NONE);
    }

    // ---- 6: wheel

    @Says(promise = 6, value = "8 at most (0 on), with ; between them")
    static void wheelsAre0To7() {
        CheeseEar x = Edge.ear(Edge.EIGHT_SHORT, "");
        for (int w = 0; w <= 7; w++) {
            Edge.due(x, "wheel(" + w + ", 0)", w % 3);
            Edge.due(x, "wheel(" + w + ", 1)", w);
            Edge.due(x, "wheel(" + w + ", 2)", 1);
            Edge.due(x, "wheel(" + w + ", 3)", w);
        }
        Edge.due(x, "wheel(8, 0)", Edge.BAD);
        Edge.due(x, "wheel(-1, 0)", Edge.BAD);
    }

    @Says(promise = 6, value = "the NIGHT on which it comes (00 to 19)")
    static void theNightAsANumber() {
        for (int night = 0; night <= 19; night++) {
            Edge.due(Edge.ear("s" + night / 10 + night % 10 + "a", ""), "wheel(0, 1)", night);
        }
    }

    @Says(promise = 6, value = "1 to 5 letters a to h (0 to 7), its SOUNDS (0 on).")
    static void soundsAre0To7() {
        CheeseEar x = Edge.ear("h00abcde;h00fgh", "");
        for (int sound = 0; sound < 5; sound++) {
            Edge.due(x, "wheel(0, " + (3 + sound) + ")", sound);
        }
        for (int sound = 0; sound < 3; sound++) {
            Edge.due(x, "wheel(1, " + (3 + sound) + ")", 5 + sound);
        }
    }

    @Says(promise = 6, value = "these (3 to 7; NONE: not so many) of a WHEEL.")
    static void noneWhereThereAreNotSoMany() {
        for (int many = 1; many <= 5; many++) {
            // the wheel behind it has all five, and the one ahead
            CheeseEar x = Edge.ear("s03hhhhh;s04" + "ggggg".substring(0, many) + ";s05fffff", "");
            Edge.due(x, "wheel(1, 2)", many);
            for (int sound = 0; sound < 5; sound++) {
                Edge.due(x, "wheel(1, " + (3 + sound) + ")", sound < many ? 6 : Edge.NONE);
            }
        }
        // what was typed longer and is undone is not there
        CheeseEar y = Edge.ear("s04abcde", "", "undo(0)", "undo(0)", "undo(0)", "undo(0)");
        Edge.due(y, "wheel(0, 2)", 1);
        Edge.due(y, "wheel(0, 4)", Edge.NONE);
        Edge.due(y, "wheel(0, 7)", Edge.NONE);
    }

    @Says(promise = 6, value = "With a FAULT a text is as if it was empty.")
    static void noWheelsWithAFault() {
        CheeseEar x = Edge.ear("h00a;s01b;", "");
        Edge.due(x, "wheel(0, 0)", Edge.BAD);
        Edge.due(x, "wheel(1, 0)", Edge.BAD);
        Edge.due(x, "longs(0)", Edge.BAD);
        Edge.due(x, "hush()", (1 << 30) - 1);
        Edge.due(x, "sale()", 0);
        Edge.due(x, "undo(0)", 9);
        Edge.due(x, "wheel(1, 0)", 1);
    }

    @Says(promise = 6, value = "BAD.")
    static void wheelRefuses() {
        Edge.allRefused(Edge::lived, Edge.BAD, "wheel(-1, 0)", "wheel(3, 0)", "wheel(7, 0)", "wheel(8, 0)", "wheel(0, -1)", "wheel(0, 8)");
        Edge.farRefused(Edge::lived, "wheel(?, 0)", Edge.BAD);
        Edge.farRefused(Edge::lived, "wheel(0, ?)", Edge.BAD);
        Edge.refused(Edge::empty, "wheel(0, 0)", Edge.BAD);
    }

    // ---- 7: warm

    @Says(promise = 7, value = "one for each NIGHT (0 on); 5 on later ones.")
    static void fiveOnLaterNights() {
        for (int n = 0; n <= 30; n++) {
            CheeseEar x = Edge.ear("", Edge.THIRTY.substring(0, n));
            for (int night = 0; night < 30; night++) {
                Edge.due(x, "warm(" + night + ")", night < n ? Edge.THIRTY.charAt(night) - '0' : 5);
            }
        }
    }

    @Says(promise = 7, value = "THE CAVE is a text of up to 30 figures 0 to 9 (text 1), how WARM it is")
    static void warmthIs0To9() {
        CheeseEar x = Edge.ear("", "0123456789");
        for (int night = 0; night <= 9; night++) {
            Edge.due(x, "warm(" + night + ")", night);
        }
    }

    @Says(promise = 7, value = "With a FAULT a text is as if it was empty.")
    static void fiveOnAllNightsWithAFault() {
        CheeseEar x = Edge.ear("", "1x3");
        for (int night = 0; night < 30; night++) {
            Edge.due(x, "warm(" + night + ")", 5);
        }
        CheeseEar y = Edge.ear("", Edge.THIRTY.substring(0, 29) + "x");
        for (int night = 0; night < 30; night++) {
            Edge.due(y, "warm(" + night + ")", 5);
        }
        Edge.due(y, "undo(1)", 29);
        Edge.due(y, "warm(28)", 9);
    }

    @Says(promise = 7, value = "NIGHTS are 0 to 29.")
    static void warmOfNights0To29() {
        CheeseEar x = Edge.ear("", Edge.THIRTY);
        Edge.due(x, "warm(0)", 3);
        Edge.due(x, "warm(29)", 1);
        Edge.due(x, "warm(30)", Edge.BAD);
        Edge.due(x, "warm(-1)", Edge.BAD);
    }

    @Says(promise = 7, value = "How WARM it is on a NIGHT. BAD.")
    static void warmRefuses() {
        Edge.allRefused(Edge::lived, Edge.BAD, "warm(-1)", "warm(30)");
        Edge.allRefused(Edge::empty, Edge.BAD, "warm(-1)", "warm(30)");
        Edge.farRefused(Edge::lived, "warm(?)", Edge.BAD);
    }

    // ---- 8: set

    @Says(promise = 8, value = "TIME (1 to 20; 8 at first)")
    static void timeIs1To20() {
        CheeseEar x = new CheeseEar();
        Edge.due(x, "set(0, 1)", 8);
        Edge.due(x, "set(0, 20)", 1);
        Edge.due(x, "set(0, 20)", 20);
        Edge.due(x, "set(0, 0)", Edge.BAD);
        Edge.due(x, "set(0, 21)", Edge.BAD);
        Edge.due(x, "set(0, 5)", 20);
        for (int v = 1; v <= 20; v++) {
            Edge.due(Edge.ear("", "", "set(0, " + v + ")"), "set(0, 8)", v);
        }
    }

    @Says(promise = 8, value = "SHRILL (0 to 8; 7 at first)")
    static void shrillIs0To8() {
        CheeseEar x = new CheeseEar();
        Edge.due(x, "set(1, 0)", 7);
        Edge.due(x, "set(1, 8)", 0);
        Edge.due(x, "set(1, 8)", 8);
        Edge.due(x, "set(1, -1)", Edge.BAD);
        Edge.due(x, "set(1, 9)", Edge.BAD);
        Edge.due(x, "set(1, 5)", 8);
        for (int v = 0; v <= 8; v++) {
            Edge.due(Edge.ear("", "", "set(1, " + v + ")"), "set(1, 7)", v);
        }
    }

    @Says(promise = 8, value = "TIME (what = 0), SHRILL (1): what it was. BAD.")
    static void setRefuses() {
        Edge.allRefused(Edge::lived, Edge.BAD, "set(-1, 5)", "set(2, 5)", "set(0, 0)", "set(0, -1)", "set(0, 21)", "set(1, -1)", "set(1, 9)");
        Edge.farRefused(Edge::lived, "set(?, 5)", Edge.BAD);
        Edge.farRefused(Edge::lived, "set(0, ?)", Edge.BAD);
        Edge.farRefused(Edge::lived, "set(1, ?)", Edge.BAD);
        // each is set by itself
        CheeseEar x = Edge.ear("", "", "set(0, 3)", "set(1, 4)");
        Edge.due(x, "set(0, 3)", 3);
        Edge.due(x, "set(1, 4)", 4);
    }
}

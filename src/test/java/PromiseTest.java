import java.util.Arrays;

/** Every promise of the document by its number: ordinary inputs, edges, wrong inputs; the dues are reckoned by hand. */
public final class PromiseTest {
    private static final int NONE = CheeseEar.NONE, BAD = CheeseEar.BAD, NOT = CheeseEar.NOT, FULL = CheeseEar.FULL;
    private static final int ALL = (1 << 30) - 1;
    private static final String LONGEST = "h00abcde;h00abcde;h00abcde;h00abcde;h00abcde;h00abcde;h00abcde;h00abcde";

    private PromiseTest() {
    }

    private static void due(String call, long got, long want) {
        Check.due(call, got, want);
    }

    private static CheeseEar ear(String wheels, String cave) {
        return Check.ear(wheels, cave);
    }

    public static void main(String[] args) {
        promise1();
        promise2();
        promise3();
        promise4();
        promise5();
        promise6();
        promise7();
        promise8();
        promise9();
        promise10();
        promise11();
        promise12();
        promise13();
        promise14();
        promise15();
        promise16();
        promise17();
        promise18();
        promise19();
        promise20();
        promise21();
        promise22();
        promise23();
        promise24();
        promise25();
        promise26();
        promise27();
        promise28();
        promise29();
        promise30();
        promise31();
        promise32();
        promise33();
        promise34();
        promise35();
        promise36();
        Check.close("PromiseTest");
    }

    private static void promise1() {
        CheeseEar x = new CheeseEar();
        for (int what = 0; what <= 8; what++) {
            due("1 new count(" + what + ")", x.count(what), 0);
        }
        for (int s = 0; s <= 3; s++) {
            due("1 new lose(" + s + ")", x.lose(s), Check.NULL);
        }
        for (int w = 0; w <= 7; w++) {
            due("1 new wheel(" + w + ", 0)", x.wheel(w, 0), BAD);
        }
        due("1 two objects share nothing", ear("h00a", "").count(0) * 10 + new CheeseEar().count(0), 10);
    }

    private static void promise2() {
        CheeseEar x = new CheeseEar();
        due("2 type(0, 0)", x.type(0, 0), 1);
        due("2 type(0, 255)", x.type(0, 255), 2);
        due("2 type(1, 255)", x.type(1, 255), 1);
        due("2 type(0, 256)", x.type(0, 256), BAD);
        due("2 type(0, -1)", x.type(0, -1), BAD);
        due("2 type(2, 104)", x.type(2, 104), BAD);
        due("2 type(-1, 104)", x.type(-1, 104), BAD);
        for (int wrong : Check.WRONG_INTS) {
            due("2 type(" + wrong + ", 0)", x.type(wrong, 0), BAD);
            due("2 type(1, " + wrong + ")", x.type(1, wrong), BAD);
        }
        due("2 refusals change nothing", x.count(2) * 10 + x.count(3), 21);
        CheeseEar y = ear(LONGEST, "");
        due("2 71 bytes", y.count(2), 71);
        due("2 a 72nd byte", y.type(0, 59), FULL);
        due("2 BAD comes ahead of FULL", y.type(0, 256), BAD);
        due("2 FULL changes nothing", y.count(2) * 10 + y.count(0), 718);
        for (int i = 1; i <= 30; i++) {
            due("2 figure " + i, y.type(1, 48), i);
        }
        due("2 a 31st figure", y.type(1, 48), FULL);
        due("2 a 31st byte of any sort", y.type(1, 0), FULL);
        due("2 no figure is lost", y.count(1), 30);
    }

    private static void promise3() {
        CheeseEar x = ear("h00a;s01b", "12");
        due("3 wipe(1)", x.wipe(1), 2);
        due("3 the other text stays", x.count(0), 2);
        due("3 warm behind wipe(1)", x.warm(0), 5);
        due("3 wipe(0)", x.wipe(0), 9);
        due("3 wipe(0) again", x.wipe(0), 0);
        due("3 no wheels are left", x.count(0), 0);
        due("3 the text starts anew", x.type(0, 104), 1);
        due("3 wipe(2)", x.wipe(2), BAD);
        due("3 wipe(-1)", x.wipe(-1), BAD);
        for (int wrong : Check.WRONG_INTS) {
            due("3 wipe(" + wrong + ")", x.wipe(wrong), BAD);
        }
    }

    private static void promise4() {
        CheeseEar x = ear("h07ab;", "39");
        due("4 a text that is not ended", x.count(0), 0);
        due("4 undo(0)", x.undo(0), 5);
        due("4 the wheel is back", x.wheel(0, 2), 2);
        due("4 undo(0) once more", x.undo(0), 4);
        due("4 one sound less", x.wheel(0, 2), 1);
        due("4 undo(1)", x.undo(1), 1);
        due("4 warm(1)", x.warm(1), 5);
        due("4 undo(1) to the start", x.undo(1), 0);
        due("4 warm(0)", x.warm(0), 5);
        due("4 undo(1) of an empty one", x.undo(1), NOT);
        due("4 NOT changes nothing", x.count(3), 0);
        due("4 undo(2)", x.undo(2), BAD);
        due("4 undo(-1)", x.undo(-1), BAD);
    }

    private static void faultOf(String text, int want) {
        due("5 fault of '" + text + "'", ear(text, "").fault(0), want);
    }

    private static void promise5() {
        String[] well = {"", "h00a", "s19h", "b10abcde", "h00a;s00b", "h09hhh;b01bb", LONGEST, "h00a;h00a;h00a;h00a;h00a;h00a;h00a;h00a"};
        for (String text : well) {
            faultOf(text, NONE);
        }
        String[] notEnded = {"h", "h0", "h00", "h00a;", "h00a;s", "h00a;s1", "h00a;s19", "h00a;h00a;h00a;h00a;h00a;h00a;h00a;h00a;"};
        for (String text : notEnded) {
            faultOf(text, text.length());
        }
        for (String text : new String[] {"H00a", "a00a", ";h00a", "000a", " h00a", "c", "g", "i", "r", "t"}) {
            faultOf(text, 0);
        }
        faultOf("h20a", 1);
        faultOf("h/0a", 1);
        faultOf("hh0a", 1);
        faultOf("h0:a", 2);
        faultOf("h0/a", 2);
        faultOf("h1aa", 2);
        faultOf("h00i", 3);
        faultOf("h00`", 3);
        faultOf("h00A", 3);
        faultOf("h00;", 3);
        faultOf("h000", 3);
        faultOf("h00a0", 4);
        faultOf("h00a:", 4);
        faultOf("h00a;;", 5);
        faultOf("h00a;a", 5);
        faultOf("h00abcdef", 8);
        faultOf("h00abcde;s00;", 12);
        faultOf("h00a;h00a;h00a;h00a;h00a;h00a;h00a;h00a;h", 40);
        faultOf("h00a;h00a;h00a;h00a;h00a;h00a;h00a;h00a;h00a", 40);
        faultOf("h00a;h00a;h00a;h00a;h00a;h00a;h00a;h00a;x", 40);
        faultOf("h00a" + (char) 0, 4);
        faultOf("h00a" + (char) 255, 4);
        due("5 a cave", ear("", "0123456789").fault(1), NONE);
        due("5 an empty cave", ear("", "").fault(1), NONE);
        due("5 a cave with a letter", ear("", "01a3b").fault(1), 2);
        due("5 a cave with /", ear("", "/").fault(1), 0);
        due("5 a cave with :", ear("", "9:").fault(1), 1);
        CheeseEar x = ear("h00a;s05b;x", "12x");
        due("5 with a fault there are no wheels", x.count(0), 0);
        due("5 with a fault there is no cave", x.count(1), 0);
        due("5 with a fault it is 5 warm", x.warm(0), 5);
        x.wipe(0);
        x.wipe(1);
        due("5 wiped, it is well", x.fault(0), NONE);
        due("5 a wiped cave is well", x.fault(1), NONE);
        due("5 fault(2)", x.fault(2), BAD);
        due("5 fault(-1)", x.fault(-1), BAD);
    }

    private static void promise6() {
        CheeseEar x = ear("h00a;s19habcg;b07bb", "");
        int[][] dues = {{0, 0, 1, 0, NONE, NONE, NONE, NONE}, {1, 19, 5, 7, 0, 1, 2, 6}, {2, 7, 2, 1, 1, NONE, NONE, NONE}};
        for (int w = 0; w < dues.length; w++) {
            for (int what = 0; what <= 7; what++) {
                due("6 wheel(" + w + ", " + what + ")", x.wheel(w, what), dues[w][what]);
            }
        }
        due("6 wheel(3, 0)", x.wheel(3, 0), BAD);
        due("6 wheel(-1, 0)", x.wheel(-1, 0), BAD);
        due("6 wheel(0, 8)", x.wheel(0, 8), BAD);
        due("6 wheel(0, -1)", x.wheel(0, -1), BAD);
        for (int wrong : Check.WRONG_INTS) {
            due("6 wheel(" + wrong + ", 0)", x.wheel(wrong, 0), BAD);
            due("6 wheel(0, " + wrong + ")", x.wheel(0, wrong), BAD);
        }
        CheeseEar y = ear(LONGEST, "");
        due("6 the eighth's last sound", y.wheel(7, 7), 4);
        due("6 no ninth", y.wheel(8, 0), BAD);
        // a shorter text must not show what an earlier, longer one left behind
        y.wipe(0);
        Check.typeAll(y, 0, "b11h");
        due("6 after a new text: night", y.wheel(0, 1), 11);
        due("6 after a new text: second sound", y.wheel(0, 4), NONE);
        due("6 after a new text: second wheel", y.wheel(1, 0), BAD);
    }

    private static void promise7() {
        CheeseEar x = ear("", "0918");
        int[] dues = {0, 9, 1, 8, 5};
        for (int night = 0; night < dues.length; night++) {
            due("7 warm(" + night + ")", x.warm(night), dues[night]);
        }
        due("7 warm(29)", x.warm(29), 5);
        due("7 warm(30)", x.warm(30), BAD);
        due("7 warm(-1)", x.warm(-1), BAD);
        Check.typeAll(x, 1, "00000000000000000000000007");
        due("7 the last figure", x.warm(29), 7);
        due("7 warm(28)", x.warm(28), 0);
    }

    private static void promise8() {
        CheeseEar x = new CheeseEar();
        due("8 TIME at first", x.set(0, 1), 8);
        due("8 TIME 20", x.set(0, 20), 1);
        due("8 TIME 21", x.set(0, 21), BAD);
        due("8 TIME 0", x.set(0, 0), BAD);
        due("8 TIME was", x.set(0, 3), 20);
        due("8 SHRILL at first", x.set(1, 0), 7);
        due("8 SHRILL 8", x.set(1, 8), 0);
        due("8 SHRILL 9", x.set(1, 9), BAD);
        due("8 SHRILL -1", x.set(1, -1), BAD);
        due("8 SHRILL was", x.set(1, 2), 8);
        due("8 set(2, 5)", x.set(2, 5), BAD);
        due("8 set(-1, 5)", x.set(-1, 5), BAD);
        due("8 TIME still", x.set(0, 3), 3);
    }

    private static void promise9() {
        CheeseEar x = new CheeseEar();
        due("9 turning(30, 0)", x.turning(30, 0), BAD);
        due("9 turning(-1, 0)", x.turning(-1, 0), BAD);
        due("9 turning(0, 8)", x.turning(0, 8), BAD);
        due("9 turning(0, -1)", x.turning(0, -1), BAD);
        due("9 turning of a wheel that is not there", x.turning(0, 7), 1);
        due("9 the last night", x.turning(29, 0), 2);
        for (int i = 3; i <= 8; i++) {
            due("9 the same again " + i, x.turning(29, 0), i);
        }
        due("9 a ninth", x.turning(1, 0), FULL);
        due("9 BAD comes ahead of FULL", x.turning(30, 0), BAD);
        due("9 count", x.count(4), 8);
        due("9 knocks are others", x.count(5), 0);
    }

    private static void promise10() {
        CheeseEar x = new CheeseEar();
        due("10 knock(30, 0)", x.knock(30, 0), BAD);
        due("10 knock(-1, 0)", x.knock(-1, 0), BAD);
        due("10 knock(0, 8)", x.knock(0, 8), BAD);
        due("10 knock(0, -1)", x.knock(0, -1), BAD);
        due("10 knock(29, 7)", x.knock(29, 7), 1);
        for (int i = 2; i <= 4; i++) {
            due("10 knock " + i, x.knock(0, 0), i);
        }
        due("10 a fifth", x.knock(0, 0), FULL);
        due("10 BAD comes ahead of FULL", x.knock(0, 8), BAD);
        due("10 count", x.count(5) * 10 + x.count(4), 40);
    }

    private static void promise11() {
        CheeseEar x = ear("h00abcde", "");
        x.turning(0, 0);
        x.turning(3, 0);
        x.knock(0, 0);
        due("11 age with all", x.at(3, 0, 0), 5 + 2 + 5 + 2 + 5);
        due("11 back(0)", x.back(0), 1);
        due("11 age without the last turning", x.at(3, 0, 0), 5 + 2 + 5 + 2 + 2);
        due("11 back(1)", x.back(1), 0);
        due("11 age without the knock", x.at(3, 0, 0), 5 + 5 + 2 + 2);
        due("11 back(1) of none", x.back(1), NOT);
        due("11 back(0)", x.back(0), 0);
        due("11 back(0) of none", x.back(0), NOT);
        due("11 age with none", x.at(3, 0, 0), 8);
        due("11 back(2)", x.back(2), BAD);
        due("11 back(-1)", x.back(-1), BAD);
    }

    private static void promise12() {
        CheeseEar x = ear("h00abcde", "");
        due("12 read of a lost sheet", x.read(0), Check.NULL);
        due("12 count 8", x.count(8), 1);
        due("12 read(4)", x.read(4), BAD);
        due("12 read(-1)", x.read(-1), BAD);
        int[] items = {3, 0, 29, 7, 0, 0, 5};
        for (int form = 0; form <= 2; form++) {
            x.sheet(form, form, items.length);
            for (int i = 0; i < items.length; i++) {
                x.put(form, form, i, items[i]);
            }
        }
        due("12 read: the odd item is not whole", x.read(0), 3);
        due("12 they are there", x.count(4), 3);
        due("12 night first, then wheel", x.at(3, 0, 0), 5 + 5 + 2 + 5);
        due("12 read more", x.read(1), 3);
        due("12 as long as there is room", x.read(2), 2);
        due("12 count", x.count(4), 8);
        due("12 no room", x.read(2), 0);
        for (int i = 0; i < 8; i++) {
            x.back(0);
        }
        int[][] wrongs = {{30, 0}, {-1, 0}, {0, 8}, {0, -1}};
        for (int[] wrong : wrongs) {
            x.sheet(3, 2, 6);
            x.put(3, 2, 2, wrong[0]);
            x.put(3, 2, 3, wrong[1]);
            due("12 up to the first that may not be " + Arrays.toString(wrong), x.read(3), 1);
            due("12 the one ahead is there", x.back(0), 0);
        }
        x.sheet(3, 2, 1);
        due("12 one item is no turning", x.read(3), 0);
        x.sheet(3, 2, 2);
        due("12 two items are one", x.read(3), 1);
        due("12 it is undone", x.back(0), 0);
        x.sheet(3, 2, 0);
        due("12 no items", x.read(3), 0);
        due("12 nothing came", x.count(4), 0);
    }

    private static void rowDue(String name, CheeseEar x, int wheel, int what, int[] want) {
        for (int night = 0; night < want.length; night++) {
            due(name + " at(" + night + ", " + wheel + ", " + what + ")", x.at(night, wheel, what), want[night]);
        }
    }

    private static void promise13() {
        CheeseEar x = ear("h01abc;s01abc;b01abc", "9473");
        rowDue("13 hard", x, 0, 0, new int[] {0, 2, 5, 6, 8, 10, 12, 14, 16, 18, 20, 22, 24, 26});
        rowDue("13 hard", x, 0, 1, new int[] {NONE, 0, 0, 0, 1, 1, 1, 1, 2, 2, 2, 2, NONE, NONE});
        rowDue("13 hard", x, 0, 2, new int[] {0, 1, 1, 1, 1, 1, 1, 1, 1, 1, 1, 1, 2, 2});
        rowDue("13 soft", x, 1, 0, new int[] {0, 6, 16, 20, 27, 34});
        rowDue("13 soft", x, 1, 1, new int[] {NONE, 0, 2, 2, NONE, NONE});
        rowDue("13 soft", x, 1, 2, new int[] {0, 1, 1, 1, 2, 2});
        rowDue("13 blue", x, 2, 0, new int[] {0, 5, 13, 17, 23, 29});
        rowDue("13 blue", x, 2, 1, new int[] {NONE, 0, 1, 2, 2, NONE});
        rowDue("13 blue", x, 2, 2, new int[] {0, 1, 1, 1, 1, 2});
        for (int w = 0; w < 3; w++) {
            x.turning(2, w);
        }
        rowDue("13 hard turned", x, 0, 0, new int[] {0, 2, 9, 12, 14, 16});
        rowDue("13 soft turned", x, 1, 0, new int[] {0, 6, 6, 10, 17});
        rowDue("13 blue turned", x, 2, 0, new int[] {0, 5, 13, 17, 23});
        x.knock(2, 1);
        x.knock(2, 1);
        x.knock(0, 0);
        x.knock(3, 2);
        rowDue("13 soft turned, knocked twice", x, 1, 0, new int[] {0, 6, 8, 12, 19});
        rowDue("13 hard, knocked ahead of its night", x, 0, 0, new int[] {0, 2, 9});
        rowDue("13 blue knocked", x, 2, 0, new int[] {0, 5, 13, 19});
        x.turning(0, 0);
        rowDue("13 hard, turned on the night ahead of its own", x, 0, 0, new int[] {0, 4, 11, 14});
        CheeseEar y = ear("h00ah;s00ah;b00ah", "99");
        rowDue("13 hard screams", y, 0, 0, new int[] {4, 8, 8, 8});
        rowDue("13 hard screams", y, 0, 1, new int[] {0, 7, NONE, NONE});
        rowDue("13 hard screams", y, 0, 2, new int[] {1, 3, 4, 4});
        rowDue("13 soft screams", y, 1, 0, new int[] {13, 13, 13});
        rowDue("13 soft screams", y, 1, 2, new int[] {3, 4, 4});
        rowDue("13 blue screams", y, 2, 0, new int[] {10, 20, 26});
        rowDue("13 blue screams", y, 2, 1, new int[] {7, NONE, NONE});
        rowDue("13 blue screams", y, 2, 2, new int[] {1, 2, 2});
        y.set(1, 8);
        rowDue("13 nothing screams", y, 0, 2, new int[] {1, 1, 1, 1, 1, 2});
        y.set(1, 0);
        rowDue("13 everything screams", y, 0, 2, new int[] {3, 4, 4});
        y.set(0, 1);
        rowDue("13 over at once is not eaten", y, 0, 2, new int[] {2, 2});
        due("13 the last night", y.at(29, 0, 2), 2);
        CheeseEar slow = ear("b00abcd", "0000");
        slow.set(0, 1);
        rowDue("13 TIME 1", slow, 0, 1, new int[] {1, 2, 3, NONE, NONE});
        CheeseEar still = ear("h02ab", "00000000000000000000000000000009");
        rowDue("13 no warmth, the first sound", still, 0, 2, new int[] {0, 0, 1, 1, 1, 1, 1, 1, 1, 1});
        due("13 to the end", still.at(29, 0, 1), 0);
        due("13 at(30, 0, 0)", y.at(30, 0, 0), BAD);
        due("13 at(-1, 0, 0)", y.at(-1, 0, 0), BAD);
        due("13 at(0, 3, 0)", y.at(0, 3, 0), BAD);
        due("13 at(0, -1, 0)", y.at(0, -1, 0), BAD);
        due("13 at(0, 0, 3)", y.at(0, 0, 3), BAD);
        due("13 at(0, 0, -1)", y.at(0, 0, -1), BAD);
    }

    private static void promise14() {
        CheeseEar x = ear("h01abc;s01abc;b01abc;h00ah", "9473");
        due("14 hard", x.longs(0), 11);
        due("14 soft", x.longs(1), 3);
        due("14 blue", x.longs(2), 4);
        due("14 a scream is heard", x.longs(3), 3);
        x.set(0, 20);
        due("14 to the last night", x.longs(0), 29);
        x.set(0, 1);
        due("14 never", x.longs(2), 0);
        due("14 longs(4)", x.longs(4), BAD);
        due("14 longs(-1)", x.longs(-1), BAD);
    }

    private static void promise15() {
        CheeseEar x = ear("h00ah;s00ah;b00ah", "99");
        due("15 scream night", x.scream(0), 0);
        due("15 the least wheel", x.scream(1), 1);
        x.set(1, 8);
        due("15 none screams: night", x.scream(0), NONE);
        due("15 none screams: wheel", x.scream(1), NONE);
        x.set(1, 0);
        due("15 all scream", x.scream(1), 0);
        CheeseEar y = ear("b03ag;h05g;b02ag", "");
        due("15 g does not scream", y.scream(0), NONE);
        y.set(1, 6);
        due("15 a blue one screams", y.scream(0), 3);
        due("15 not the least wheel but the first night", y.scream(1), 2);
        Check.typeAll(y, 0, ";h00h");
        due("15 a fourth", y.scream(1), 3);
        for (int i = 0; i < 5; i++) {
            y.undo(0);
        }
        due("15 a wheel that was typed is none", y.scream(1), 2);
        due("15 scream(2)", y.scream(2), BAD);
        due("15 scream(-1)", y.scream(-1), BAD);
    }

    private static void promise16() {
        CheeseEar x = ear("h00aab;s02aa;b02ab", "");
        // hard: a to night 6 (ages 2 to 14); soft: a at ages 7, 14 (nights 2, 3); blue: a at age 6 (night 2), b at 12 (night 3)
        due("16 a on most wheels", x.chord(0, 0), 2);
        due("16 of how many", x.chord(0, 1), 3);
        due("16 b, the first of like ones", x.chord(1, 0), 3);
        due("16 b of one", x.chord(1, 1), 1);
        due("16 h never", x.chord(7, 0), NONE);
        due("16 h of none", x.chord(7, 1), NONE);
        CheeseEar y = ear("b00h;b19b;b19ac;h03a", "");
        due("16 h on night 0", y.chord(7, 0), 0);
        due("16 h of one", y.chord(7, 1), 1);
        due("16 g next to it never", y.chord(6, 0), NONE);
        due("16 a on the first of like nights", y.chord(0, 0), 3);
        for (int i = 0; i < 5; i++) {
            y.undo(0);
        }
        due("16 a wheel that was typed is none", y.chord(0, 0), 19);
        due("16 chord(8, 0)", x.chord(8, 0), BAD);
        due("16 chord(-1, 0)", x.chord(-1, 0), BAD);
        due("16 chord(0, 2)", x.chord(0, 2), BAD);
        due("16 chord(0, -1)", x.chord(0, -1), BAD);
        due("16 without wheels", new CheeseEar().chord(0, 1), NONE);
    }

    private static void promise17() {
        due("17 without wheels", new CheeseEar().hush(), ALL);
        CheeseEar x = ear("h00ah;s00ah;b00ah", "99");
        due("17 nights 0 and 1 are heard", x.hush(), ALL - 3);
        CheeseEar y = ear("s03a;b19a", "");
        due("17 one night each", y.hush(), ALL - (1 << 3) - (1 << 19));
        Check.typeAll(y, 0, ";h00a");
        due("17 a third", y.hush(), ALL - 15 - (1 << 19));
        for (int i = 0; i < 5; i++) {
            y.undo(0);
        }
        due("17 a wheel that was typed is none", y.hush(), ALL - (1 << 3) - (1 << 19));
        y.set(0, 20);
        due("17 to the end of each", y.hush(), ALL - (1 << 3) - (1 << 4) - (1 << 19) - (1 << 20) - (1 << 21));
    }

    private static void ripeDue(String name, CheeseEar x, int wheel, int night, int... want) {
        due("18 " + name + ": how many", x.ripe(wheel, night, NONE), want[0]);
        due("18 " + name + ": first", x.ripe(wheel, night, 0), want[1]);
        due("18 " + name + ": second", x.ripe(wheel, night, 1), want[2]);
    }

    private static void promise18() {
        CheeseEar x = ear("h00ab;s00ab;b00ab;h05ab", "");
        ripeDue("hard as it is", x, 0, 3, 0, NONE, NONE);
        // two nights more by 3 each make 4 of 2 and 2 by 5: 6 is 2+2+2, one turning on 0 makes 5+5+2
        ripeDue("hard by one", x, 0, 2, 1, 0, NONE);
        ripeDue("hard on night 0 never", x, 0, 0, NONE, NONE, NONE);
        // ages on night 1: 4; with a turning on 0 10, on 1 7
        ripeDue("hard on night 1", x, 0, 1, 1, 0, NONE);
        ripeDue("hard is over", x, 0, 7, NONE, NONE, NONE);
        // soft: 7 each night: 14 on night 1, 21 on night 2 needs one turning, 28 on night 3 needs two
        ripeDue("soft as it is", x, 1, 1, 0, NONE, NONE);
        ripeDue("soft by one", x, 1, 2, 1, 0, NONE);
        ripeDue("soft by two", x, 1, 3, 2, 0, 1);
        ripeDue("soft by more than two", x, 1, 4, NONE, NONE, NONE);
        ripeDue("blue is not turned", x, 2, 2, NONE, NONE, NONE);
        ripeDue("blue as it is", x, 2, 1, 0, NONE, NONE);
        ripeDue("ahead of its night", x, 3, 4, NONE, NONE, NONE);
        ripeDue("hard from night 5 by one", x, 3, 6, 1, 5, NONE);
        x.set(0, 7);
        // on night 6: 2+2; turned on 4: 5+2, which is the least night that is enough
        ripeDue("hard, turned on the night ahead of its own", x, 3, 6, 1, 4, NONE);
        x.set(0, 8);
        for (int i = 0; i < 8; i++) {
            x.turning(29, 7);
        }
        ripeDue("eight turnings already", x, 1, 3, 2, 0, 1);
        CheeseEar y = ear("h00ab", "");
        y.set(0, 16);
        // ages 2 (n + 1); on night 5 12; one turning adds 6 at most, a last one 3: 18 by the turning on 0
        ripeDue("least first", y, 0, 5, 1, 0, NONE);
        // on night 4: 10 and 6 by the turning on 0; 16
        ripeDue("just enough", y, 0, 4, 1, 0, NONE);
        // on night 3: 8; 14 by one; two: on 0 and 1 17 (three nights by 5), on 0 and 2 20
        ripeDue("two at the start", y, 0, 3, 2, 0, 1);
        CheeseEar z = ear("s00hb", "");
        ripeDue("eaten first", z, 0, 1, NONE, NONE, NONE);
        z.set(1, 8);
        ripeDue("not eaten", z, 0, 1, 0, NONE, NONE);
        // in a cave that is warm on nights 1 and 2 alone a soft wheel must be turned just then
        ripeDue("on the very night", ear("s00a", "009"), 0, 2, 1, 2, NONE);
        ripeDue("on the very night and the one ahead", ear("s00a", "099"), 0, 2, 2, 1, 2);
        ripeDue("ahead of its night, of one sound", ear("s05a", ""), 0, 4, NONE, NONE, NONE);
        ripeDue("on its night, of one sound", ear("s05a", ""), 0, 5, 0, NONE, NONE);
        ripeDue("on the last night", ear("h19a", "00000000000000000000000000000"), 0, 29, 0, NONE, NONE);
        CheeseEar one = ear("s00aaa", "");
        ripeDue("the last sound, not only its letter", one, 0, 0, NONE, NONE, NONE);
        due("18 ripe(1, 0, -1)", one.ripe(1, 0, -1), BAD);
        due("18 ripe(-1, 0, -1)", one.ripe(-1, 0, -1), BAD);
        due("18 ripe(0, 30, -1)", one.ripe(0, 30, -1), BAD);
        due("18 ripe(0, -1, -1)", one.ripe(0, -1, -1), BAD);
        due("18 ripe(0, 0, 2)", one.ripe(0, 0, 2), BAD);
        due("18 ripe(0, 0, -2)", one.ripe(0, 0, -2), BAD);
        due("18 nothing is turned by it", one.count(4), 0);
    }

    private static void promise19() {
        CheeseEar x = ear("h01abc;s01abc;h19a", "9473");
        due("19 hard: which", x.cold(0, 0), 2);
        due("19 hard: on how many", x.cold(0, 1), 13);
        due("19 soft: the least of like ones", x.cold(1, 0), 1);
        due("19 soft: on how many", x.cold(1, 1), 4);
        // 2, 4, 6 and over on night 22; cold on 19, 20 or 21: one night more
        due("19 a night behind the text", x.cold(2, 0), 19);
        due("19 on how many there", x.cold(2, 1), 4);
        due("19 the cave stays", x.warm(2), 7);
        due("19 longs stay", x.longs(0), 11);
        due("19 night 0", ear("b00a;b01a", "95").cold(0, 0), 0);
        due("19 two nights by it", ear("b00a;b01a", "95").cold(0, 1), 2);
        due("19 night 29", ear("b19a", "00000000000000000000000000000").cold(0, 0), 0);
        CheeseEar late = ear("b19abcd", "000000000000000000000000000009");
        late.set(0, 4);
        // 1 to 10 by night 28, and 20 on night 29: over but for the cold then
        due("19 the last night is better", late.cold(0, 0), 29);
        due("19 on eleven", late.cold(0, 1), 11);
        CheeseEar over = ear("b03a", "");
        over.set(0, 1);
        due("19 heard on no night: the least", over.cold(0, 0), 0);
        due("19 heard on no night: 0", over.cold(0, 1), 0);
        x.set(0, 20);
        due("19 no night is better", x.cold(0, 0), 0);
        due("19 on all", x.cold(0, 1), 29);
        due("19 cold(3, 0)", x.cold(3, 0), BAD);
        due("19 cold(-1, 0)", x.cold(-1, 0), BAD);
        due("19 cold(0, 2)", x.cold(0, 2), BAD);
        due("19 cold(0, -1)", x.cold(0, -1), BAD);
    }

    private static void promise20() {
        CheeseEar x = ear("h01abc;s01a", "9473");
        due("20 hard: which", x.come(0, 0), 19);
        due("20 hard: the moment", x.come(0, 1), 2);
        due("20 soft: by none", x.come(1, 0), NONE);
        due("20 soft: no moment", x.come(1, 1), NONE);
        CheeseEar y = ear("s01abcde", "");
        y.set(0, 20);
        due("20 the least of like ones", y.come(0, 0), 16);
        due("20 the greatest moment", y.come(0, 1), 4);
        due("20 its own night stays", y.wheel(0, 1), 1);
        CheeseEar blue = ear("b00abcde", "");
        blue.set(0, 13);
        // 66 from night 19, over by 1; 60 from night 20, on which none comes
        due("20 not from night 20", blue.come(0, 0), NONE);
        CheeseEar cold = ear("b05abcde", "000000000000000000000000000000");
        cold.set(0, 20);
        due("20 from night 0", cold.come(0, 0), 0);
        due("20 with moment 1", cold.come(0, 1), 1);
        CheeseEar z = ear("h00ha", "");
        z.set(0, 20);
        due("20 it may not be gone by then", z.come(0, 0), NONE);
        due("20 come(2, 0)", x.come(2, 0), BAD);
        due("20 come(-1, 0)", x.come(-1, 0), BAD);
        due("20 come(0, 2)", x.come(0, 2), BAD);
        due("20 come(0, -1)", x.come(0, -1), BAD);
    }

    private static void promise21() {
        due("21 without wheels", new CheeseEar().sale(), 0);
        // each is heard as a (1) on night 0, as b (2) on nights 1 and 2, then it is over
        String cave = "8888";
        due("21 one", ear("h00ab", cave).sale(), 2);
        due("21 two on two nights", ear("h00ab;h00ab", cave).sale(), 4);
        due("21 three", ear("h00ab;h00ab;h00ab", cave).sale(), 5);
        due("21 no fourth night", ear("h00ab;h00ab;h00ab;h00ab", cave).sale(), 5);
        CheeseEar eight = ear("h00ab;h00ab;h00ab;h00ab;h00ab;h00ab;h00ab;h00ab", "");
        eight.set(0, 20);
        // each is heard as b on nights 9 to 18
        due("21 eight alike", eight.sale(), 16);
        CheeseEar late = ear("b19ab", "000000000000000000000000000000");
        late.set(0, 11);
        due("21 the last night", late.sale(), 2);
        due("21 of fewer than eight", ear("b19ab;b19ab", "0000000000000000000000000000").sale(), 4);
        CheeseEar x = ear("s00h;s00ah;s00aah", "");
        // each is heard first on night 0; the second screams on night 1, the third (7, 14, 21) on night 2
        due("21 on the night on which it is eaten", x.sale(), 1 + 2 + 3);
        due("21 nothing is sold by it", x.sale(), 6);
        x.set(0, 1);
        due("21 all are over", x.sale(), 0);
    }

    private static void promise22() {
        CheeseEar x = new CheeseEar();
        due("22 listen(30, 0, 0)", x.listen(30, 0, 0), BAD);
        due("22 listen(-1, 0, 0)", x.listen(-1, 0, 0), BAD);
        due("22 listen(0, 8, 0)", x.listen(0, 8, 0), BAD);
        due("22 listen(0, -1, 0)", x.listen(0, -1, 0), BAD);
        due("22 listen(0, 0, 9)", x.listen(0, 0, 9), BAD);
        due("22 listen(0, 0, -1)", x.listen(0, 0, -1), BAD);
        due("22 a wheel that is not there", x.listen(29, 7, 8), 1);
        for (int i = 2; i <= 8; i++) {
            due("22 listen " + i, x.listen(0, 0, 7), i);
        }
        due("22 a ninth", x.listen(0, 0, 0), FULL);
        due("22 BAD comes ahead of FULL", x.listen(0, 0, 9), BAD);
        due("22 count", x.count(7), 8);
    }

    private static void promise23() {
        CheeseEar x = ear("h00a", "");
        due("23 forget nothing", x.forget(), 0);
        x.listen(0, 0, 1);
        x.listen(1, 0, 1);
        due("23 sorts by which that may be", x.was(0, 1), 0);
        due("23 forget", x.forget(), 2);
        due("23 nothing is left", x.count(7), 0);
        due("23 all sorts", x.was(0, 1), 7);
        due("23 listen anew", x.listen(0, 0, 0), 1);
    }

    private static void promise24() {
        CheeseEar x = ear("h00abcd;s00ab", "");
        due("24 without turnings", x.never(), 0);
        x.turning(0, 0);
        x.turning(3, 0);
        due("24 nothing listened: each", x.never(), 3);
        x.listen(3, 0, 1);
        // both: 17; without the first 11, without the second 14
        due("24 each alone", x.never(), 3);
        x.listen(2, 0, 0);
        due("24 only without the first", x.never(), 1);
        x.listen(0, 1, 0);
        due("24 another wheel comes out so", x.never(), 1);
        x.listen(0, 1, 8);
        due("24 another wheel does not", x.never(), 0);
        x.forget();
        x.listen(2, 0, 0);
        x.turning(0, 0);
        due("24 the same turning twice", x.never(), 0);
        x.back(0);
        x.turning(5, 7);
        due("24 a turning of no wheel", x.never(), 1);
        x.forget();
        x.listen(0, 5, 8);
        due("24 a wheel that is not there", x.never(), 0);
    }

    private static void promise25() {
        CheeseEar x = ear("h04ab;s06cd", "");
        due("25 all nights", x.was(0, 0), (1 << 20) - 1);
        due("25 all sorts", x.was(0, 1), 7);
        x.listen(7, 0, 0);
        // 8 by 2 each night: heard as a on the first three nights
        due("25 nights 5, 6, 7", x.was(0, 0), 7 << 5);
        due("25 of the other", x.was(1, 0), 0);
        x.forget();
        CheeseEar y = ear("h00abc", "");
        y.listen(1, 0, 1);
        due("25 soft or blue", y.was(0, 1), 6);
        y.listen(0, 0, 1);
        due("25 no sort is heard so on both", y.was(0, 1), 0);
        y.forget();
        y.set(0, 7);
        y.listen(0, 0, 1);
        due("25 soft", y.was(0, 1), 2);
        y.forget();
        y.listen(0, 0, 0);
        due("25 hard or blue", y.was(0, 1), 5);
        y.forget();
        y.listen(19, 0, 8);
        // by 2 each night and 21: heard for ten nights, so not from 10 on
        due("25 nothing heard", y.was(0, 0), (1 << 10) - 1);
        CheeseEar z = ear("h00ab;h00ab", "");
        z.turning(0, 0);
        z.listen(1, 0, 1);
        due("25 the turnings of the others are as told: nights", z.was(1, 0), (1 << 20) - 1);
        due("25 the turnings of the others are as told: sorts", z.was(1, 1), 7);
        z.back(0);
        due("25 without that turning: nights", z.was(1, 0), 0);
        due("25 without that turning: sorts", z.was(1, 1), 0);
        due("25 its own night stays", y.wheel(0, 1), 0);
        due("25 its own sort stays", y.wheel(0, 0), 0);
        due("25 was(1, 0)", y.was(1, 0), BAD);
        due("25 was(-1, 0)", y.was(-1, 0), BAD);
        due("25 was(0, 2)", y.was(0, 2), BAD);
        due("25 was(0, -1)", y.was(0, -1), BAD);
    }

    private static void promise26() {
        CheeseEar x = ear("h04ab;s06cd", "");
        due("26 hard", x.ask(0), 6);
        due("26 soft", x.ask(1), 1);
        x.listen(7, 0, 0);
        due("26 behind a night", x.ask(0), 5);
        due("26 by none: the least night", x.ask(1), 0);
        CheeseEar y = ear("s00a", "");
        // heard on the night of its coming alone: 1 of 20 against 19, each night alike
        due("26 each alike", y.ask(0), 0);
        y.listen(0, 0, 8);
        due("26 not on a night that tells nothing", y.ask(0), 1);
        CheeseEar z = ear("s00aaaaa", "");
        // by letter, not by sound: a is a
        z.set(0, 7);
        z.listen(19, 0, 0);
        due("26 four nights are left", z.was(0, 0), 15 << 16);
        due("26 heard alike by letter", z.ask(0), 17);
        due("26 ask(1)", z.ask(1), BAD);
        due("26 ask(-1)", z.ask(-1), BAD);
    }

    private static void frostDue(String name, CheeseEar x, int[] call, long above, long below) {
        due("27 " + name + ": above", x.frost(call[0], call[1], call[2], call[3], 0), above);
        due("27 " + name + ": below", x.frost(call[0], call[1], call[2], call[3], 1), below);
    }

    private static void promise27() {
        CheeseEar x = ear("b00a;b05a;h00ha", "");
        frostDue("surely", x, new int[] {4, 1, 0, 0}, 1, 1);
        frostDue("one frost or two of two", x, new int[] {4, 1, 0, 1}, 7, 16);
        frostDue("one night of frost", x, new int[] {4, 0, 0, 1}, 1, 4);
        frostDue("lowest terms", x, new int[] {6, 0, 0, 1}, 3, 8);
        frostDue("never cold", x, new int[] {0, 9, 0, 1}, 0, 1);
        frostDue("always cold", x, new int[] {16, 9, 0, 1}, 1, 1);
        frostDue("not there yet", x, new int[] {4, 9, 1, 4}, 0, 1);
        frostDue("nights ahead do not matter", x, new int[] {4, 9, 1, 6}, 7, 16);
        frostDue("the last night of frost is in it", x, new int[] {4, 5, 1, 6}, 1, 4);
        frostDue("eaten on its night", x, new int[] {4, 9, 2, 0}, 1, 1);
        frostDue("gone behind that", x, new int[] {4, 9, 2, 1}, 0, 1);
        x.set(0, 11);
        frostDue("ten frosts", x, new int[] {1, 9, 0, 9}, 1, 1L << 40);
        frostDue("not ten frosts of fifteen", x, new int[] {15, 9, 0, 9}, 576650390625L, 1L << 40);
        CheeseEar y = ear("s00ah", "");
        y.set(0, 7);
        frostDue("heard if frost kept it", y, new int[] {8, 0, 0, 1}, 1, 2);
        y.knock(0, 0);
        y.turning(1, 0);
        // frost: 2, then 0 more; as told 9, which screams
        frostDue("with a knock and a turning", y, new int[] {3, 9, 0, 1}, 3, 16);
        CheeseEar old = ear("b00abcde", "");
        old.set(0, 20);
        frostDue("at a great age", old, new int[] {0, 9, 0, 15}, 1, 1);
        frostDue("over but for one frost", old, new int[] {8, 0, 0, 16}, 1, 2);
        due("27 c 17", x.frost(17, 0, 0, 0, 0), Check.BAD_LONG);
        due("27 c -1", x.frost(-1, 0, 0, 0, 0), Check.BAD_LONG);
        due("27 last 10", x.frost(0, 10, 0, 0, 0), Check.BAD_LONG);
        due("27 last -1", x.frost(0, -1, 0, 0, 0), Check.BAD_LONG);
        due("27 wheel 3", x.frost(0, 0, 3, 0, 0), Check.BAD_LONG);
        due("27 wheel -1", x.frost(0, 0, -1, 0, 0), Check.BAD_LONG);
        due("27 night 30", x.frost(0, 0, 0, 30, 0), Check.BAD_LONG);
        due("27 night -1", x.frost(0, 0, 0, -1, 0), Check.BAD_LONG);
        due("27 what 2", x.frost(0, 0, 0, 0, 2), Check.BAD_LONG);
        due("27 what -1", x.frost(0, 0, 0, 0, -1), Check.BAD_LONG);
    }

    /** The cave that a seed makes, by the document's sentence on LOTS. */
    private static String lots(int seed, int n) {
        StringBuilder cave = new StringBuilder();
        long now = seed;
        for (int i = 0; i < n; i++) {
            now = (int) (1103515245L * now + 12345L);
            cave.append((now & 0xFFFFFFFFL) / 65536 % 10);
        }
        return cave.toString();
    }

    private static void promise28() {
        String wheels = "h00abcdh;s02abh;b03ahaba";
        CheeseEar x = ear(wheels, "00000");
        x.turning(3, 0);
        x.turning(4, 1);
        x.knock(2, 1);
        for (int seed : new int[] {0, 1, 7, -1, 123456789, Integer.MAX_VALUE, Integer.MIN_VALUE}) {
            for (int n : new int[] {0, 1, 5, 17, 29, 30}) {
                CheeseEar y = ear(wheels, lots(seed, n));
                y.turning(3, 0);
                y.turning(4, 1);
                y.knock(2, 1);
                int together = 0;
                for (int night = 0; night < 30; night++) {
                    boolean all = y.at(night, 0, 1) != NONE && y.at(night, 1, 1) != NONE && y.at(night, 2, 1) != NONE;
                    together += all ? 1 : 0;
                }
                due("28 summer(" + seed + ", " + n + ", 0)", x.summer(seed, n, 0), together);
                due("28 summer(" + seed + ", " + n + ", 1)", x.summer(seed, n, 1), y.count(6));
            }
        }
        due("28 the cave stays", x.warm(0), 0);
        due("28 lots of seed 1", Long.parseLong(lots(1, 5)), 86339L);
        CheeseEar one = ear("h03ab", "00000");
        due("28 one wheel alone", one.summer(5, 0, 0), 7);
        due("28 n 31", x.summer(1, 31, 0), BAD);
        due("28 n -1", x.summer(1, -1, 0), BAD);
        due("28 what 2", x.summer(1, 0, 2), BAD);
        due("28 what -1", x.summer(1, 0, -1), BAD);
        due("28 without wheels", new CheeseEar().summer(1, 30, 0), 0);
        due("28 without wheels none is eaten", new CheeseEar().summer(1, 30, 1), 0);
        due("28 without wheels BAD all the same", new CheeseEar().summer(1, 31, 0), BAD);
    }

    private static void promise29() {
        CheeseEar x = new CheeseEar();
        due("29 sheet(0, 0, 60)", x.sheet(0, 0, 60), 60);
        due("29 sheet(1, 1, 0)", x.sheet(1, 1, 0), 0);
        due("29 sheet(3, 2, 5)", x.sheet(3, 2, 5), 5);
        due("29 61 items", x.sheet(0, 0, 61), BAD);
        due("29 sheet 4", x.sheet(4, 0, 1), BAD);
        due("29 sheet -1", x.sheet(-1, 0, 1), BAD);
        due("29 form 3", x.sheet(0, 3, 1), BAD);
        due("29 form -1", x.sheet(0, -1, 1), BAD);
        due("29 BAD tells no finding", x.count(8), 0);
        due("29 below 0", x.sheet(3, 2, -1), Check.SIZE);
        due("29 the least int", x.sheet(2, 2, Integer.MIN_VALUE), Check.SIZE);
        due("29 count 8", x.count(8), 5);
        due("29 BAD comes ahead of SIZE", x.sheet(4, 0, -1), BAD);
        due("29 SIZE makes no sheet", x.lose(2), Check.NULL);
        x.put(3, 2, 4, 99);
        x.sheet(3, 2, -1);
        due("29 SIZE leaves the old sheet", x.get(3, 2, 4), 99);
        due("29 a new row", x.sheet(3, 2, 5), 5);
        due("29 its items are 0", x.get(3, 2, 4), 0);
        due("29 another form", x.sheet(3, 0, 4), 4);
        due("29 no item 4 now", x.get(3, 0, 4), Check.LEAST_INT);
    }

    private static void promise30() {
        CheeseEar x = new CheeseEar();
        due("30 lost at first", x.lose(2), Check.NULL);
        due("30 count 8", x.count(8), 1);
        x.sheet(2, 1, 7);
        due("30 lose(2)", x.lose(2), 7);
        due("30 lost now", x.lose(2), Check.NULL);
        x.sheet(2, 1, 0);
        due("30 a sheet without items is no lost one", x.lose(2), 0);
        due("30 lose(4)", x.lose(4), BAD);
        due("30 lose(-1)", x.lose(-1), BAD);
    }

    private static void promise31() {
        CheeseEar x = new CheeseEar();
        due("31 NULL", x.put(0, 0, 0, 1), Check.NULL);
        x.sheet(0, 0, 3);
        x.sheet(1, 1, 3);
        x.sheet(2, 2, 3);
        due("31 a byte", x.put(0, 0, 2, 200), 1);
        due("31 its lowest bits", x.get(0, 0, 2), -56);
        due("31 a short", x.put(1, 1, 0, 0x12348765), 1);
        due("31 its lowest bits", x.get(1, 1, 0), (short) 0x8765);
        due("31 an int", x.put(2, 2, 1, Integer.MIN_VALUE), 1);
        due("31 all its bits", x.get(2, 2, 1), Integer.MIN_VALUE);
        due("31 the others stay", x.get(2, 2, 0), 0);
        due("31 CAST", x.put(0, 1, 0, 1), Check.CAST);
        due("31 count 8", x.count(8), 3);
        due("31 CAST comes ahead of INDEX", x.put(0, 1, 3, 1), Check.CAST);
        due("31 INDEX", x.put(0, 0, 3, 1), Check.INDEX);
        due("31 count 8", x.count(8), 2);
        due("31 INDEX below 0", x.put(0, 0, -1, 1), Check.INDEX);
        due("31 INDEX the least int", x.put(0, 0, Integer.MIN_VALUE, 1), Check.INDEX);
        due("31 NULL comes ahead of CAST", x.put(3, 1, 0, 1), Check.NULL);
        due("31 sheet 4", x.put(4, 0, 0, 1), BAD);
        due("31 sheet -1", x.put(-1, 0, 0, 1), BAD);
        due("31 form 3", x.put(3, 3, 0, 1), BAD);
        due("31 form -1", x.put(0, -1, 0, 1), BAD);
        due("31 count 8 is of the latest finding", x.count(8), 1);
    }

    private static void promise32() {
        CheeseEar x = new CheeseEar();
        due("32 NULL", x.get(0, 0, 0), Check.LEAST_INT);
        due("32 count 8", x.count(8), 1);
        x.sheet(0, 1, 2);
        x.put(0, 1, 1, -7);
        due("32 get", x.get(0, 1, 1), -7);
        due("32 CAST", x.get(0, 0, 1), Check.LEAST_INT);
        due("32 count 8", x.count(8), 3);
        due("32 INDEX", x.get(0, 1, 2), Check.LEAST_INT);
        due("32 count 8", x.count(8), 2);
        due("32 CAST ahead of INDEX", x.get(0, 2, 2), Check.LEAST_INT);
        due("32 count 8", x.count(8), 3);
        due("32 INDEX below 0", x.get(0, 1, -1), Check.LEAST_INT);
        due("32 sheet 4", x.get(4, 0, 0), Check.LEAST_INT);
        due("32 sheet -1", x.get(-1, 0, 0), Check.LEAST_INT);
        due("32 form 3", x.get(1, 3, 0), Check.LEAST_INT);
        due("32 form -1", x.get(1, -1, 0), Check.LEAST_INT);
        due("32 BAD tells no finding", x.count(8), 2);
    }

    private static void copyDue(String name, CheeseEar x, int[] call, int want) {
        due("33 " + name, x.copy(call[0], call[1], call[2], call[3], call[4]), want);
    }

    private static void itemsDue(String name, CheeseEar x, int s, int form, int... want) {
        for (int i = 0; i < want.length; i++) {
            due("33 " + name + " item " + i, x.get(s, form, i), want[i]);
        }
    }

    private static void promise33() {
        CheeseEar x = new CheeseEar();
        x.sheet(0, 2, 5);
        x.sheet(1, 2, 3);
        x.sheet(2, 1, 5);
        for (int i = 0; i < 5; i++) {
            x.put(0, 2, i, i + 1);
        }
        copyDue("to another", x, new int[] {0, 1, 1, 0, 3}, 1);
        itemsDue("another", x, 1, 2, 2, 3, 4);
        copyDue("onto itself, up", x, new int[] {0, 0, 0, 1, 4}, 1);
        itemsDue("itself, up", x, 0, 2, 1, 1, 2, 3, 4);
        copyDue("onto itself, down", x, new int[] {0, 1, 0, 0, 4}, 1);
        itemsDue("itself, down", x, 0, 2, 1, 2, 3, 4, 4);
        copyDue("nothing, at the ends", x, new int[] {0, 5, 1, 3, 0}, 1);
        copyDue("from behind the end", x, new int[] {0, 6, 1, 0, 0}, Check.INDEX);
        copyDue("to behind the end", x, new int[] {0, 0, 1, 4, 0}, Check.INDEX);
        copyDue("not so many there", x, new int[] {0, 3, 1, 0, 3}, Check.INDEX);
        copyDue("not so many here", x, new int[] {0, 0, 1, 1, 3}, Check.INDEX);
        copyDue("from below 0", x, new int[] {0, -1, 1, 0, 1}, Check.INDEX);
        copyDue("to below 0", x, new int[] {0, 0, 1, -1, 1}, Check.INDEX);
        copyDue("fewer than none", x, new int[] {0, 0, 1, 0, -1}, Check.INDEX);
        copyDue("more than an int holds", x, new int[] {0, 1, 1, 0, Integer.MAX_VALUE}, Check.INDEX);
        copyDue("from the greatest", x, new int[] {0, Integer.MAX_VALUE, 1, 0, 1}, Check.INDEX);
        due("33 count 8", x.count(8), 2);
        itemsDue("INDEX changes nothing", x, 1, 2, 2, 3, 4);
        copyDue("STORE", x, new int[] {0, 0, 2, 0, 1}, Check.STORE);
        due("33 count 8", x.count(8), 4);
        copyDue("STORE comes ahead of INDEX", x, new int[] {0, 9, 2, 0, 1}, Check.STORE);
        copyDue("s is lost", x, new int[] {3, 0, 0, 0, 1}, Check.NULL);
        copyDue("t is lost", x, new int[] {0, 0, 3, 0, 1}, Check.NULL);
        copyDue("NULL comes ahead of INDEX", x, new int[] {0, -1, 3, 0, 1}, Check.NULL);
        due("33 count 8", x.count(8), 1);
        x.sheet(3, 2, 60);
        x.put(3, 2, 0, 8);
        copyDue("among sixty items", x, new int[] {3, 0, 3, 59, 1}, 1);
        due("33 the sixtieth", x.get(3, 2, 59), 8);
        copyDue("all sixty", x, new int[] {3, 0, 3, 0, 60}, 1);
        copyDue("a sixty-first", x, new int[] {3, 0, 3, 0, 61}, Check.INDEX);
        copyDue("s is 4", x, new int[] {4, 0, 0, 0, 1}, BAD);
        copyDue("t is 4", x, new int[] {3, 0, 4, 0, 1}, BAD);
        copyDue("s is -1", x, new int[] {-1, 0, 0, 0, 1}, BAD);
        copyDue("t is -1", x, new int[] {0, 0, -1, 0, 1}, BAD);
    }

    private static void promise34() {
        CheeseEar x = ear("h01abc;b00ah", "9473");
        due("34 NULL", x.write(0, 0), Check.NULL);
        due("34 count 8", x.count(8), 1);
        for (int form = 0; form <= 2; form++) {
            x.sheet(form, form, form == 0 ? 14 : form == 1 ? 30 : 60);
        }
        x.put(2, 2, 30, 77);
        due("34 as many as there are items", x.write(0, 0), 14);
        due("34 30", x.write(0, 1), 30);
        due("34 30 at most", x.write(0, 2), 30);
        int[] heard = {NONE, 0, 0, 0, 1, 1, 1, 1, 2, 2, 2, 2, NONE, NONE};
        for (int i = 0; i < heard.length; i++) {
            for (int form = 0; form <= 2; form++) {
                due("34 item " + i + " of form " + form, x.get(form, form, i), heard[i]);
            }
        }
        due("34 item 29", x.get(2, 2, 29), NONE);
        due("34 item 30 stays", x.get(2, 2, 30), 77);
        x.sheet(0, 0, 0);
        due("34 no items", x.write(1, 0), 0);
        due("34 a wheel that is not there", x.write(2, 0), BAD);
        due("34 BAD comes ahead of NULL", x.write(2, 3), BAD);
        due("34 wheel -1", x.write(-1, 0), BAD);
        due("34 sheet 4", x.write(0, 4), BAD);
        due("34 sheet -1", x.write(0, -1), BAD);
    }

    private static void promise35() {
        CheeseEar x = ear("h00ah;s00ah;b00ah", "991");
        x.turning(9, 0);
        x.turning(9, 7);
        x.knock(9, 0);
        x.listen(0, 0, 0);
        x.listen(0, 0, 0);
        x.listen(0, 0, 0);
        x.lose(0);
        int[] dues = {3, 3, 17, 3, 2, 1, 2, 3, 1};
        for (int what = 0; what < dues.length; what++) {
            due("35 count(" + what + ")", x.count(what), dues[what]);
        }
        x.set(1, 8);
        due("35 none is eaten", x.count(6), 0);
        x.set(1, 7);
        Check.typeAll(x, 0, ";h00h");
        due("35 three are eaten", x.count(6), 3);
        for (int i = 0; i < 5; i++) {
            x.undo(0);
        }
        due("35 a wheel that was typed is none", x.count(6), 2);
        x.type(0, 120);
        x.type(1, 120);
        int[] faulty = {0, 0, 18, 4, 2, 1, 0, 3, 1};
        for (int what = 0; what < faulty.length; what++) {
            due("35 with faults count(" + what + ")", x.count(what), faulty[what]);
        }
        due("35 count(9)", x.count(9), BAD);
        due("35 count(-1)", x.count(-1), BAD);
        x.sheet(0, 0, -1);
        due("35 a later finding", x.count(8), 5);
    }

    /** The digest by the calls that the document names. */
    private static long digestOf(CheeseEar x) {
        long h = 17;
        for (int what = 0; what <= 7; what++) h = 31 * h + x.count(what);
        for (int text = 0; text <= 1; text++) h = 31 * h + x.fault(text);
        for (int night : new int[] {0, 9, 19, 29}) h = 31 * h + x.warm(night);
        for (int w = 0; w < x.count(0); w++) {
            for (int what = 0; what <= 7; what++) h = 31 * h + x.wheel(w, what);
            for (int night : new int[] {0, 5, 12, 29}) {
                for (int what = 0; what <= 2; what++) h = 31 * h + x.at(night, w, what);
            }
            long[] rest = {x.longs(w), x.ripe(w, 12, NONE), x.ripe(w, 12, 0), x.cold(w, 0), x.cold(w, 1), x.come(w, 0), x.come(w, 1),
                x.was(w, 0), x.was(w, 1), x.ask(w), x.frost(5, 5, w, 12, 0), x.frost(5, 5, w, 12, 1)};
            for (long v : rest) h = 31 * h + v;
        }
        h = 31 * (31 * h + x.scream(0)) + x.scream(1);
        for (int letter = 0; letter <= 7; letter++) h = 31 * (31 * h + x.chord(letter, 0)) + x.chord(letter, 1);
        for (long v : new long[] {x.hush(), x.sale(), x.never(), x.summer(7, 20, 0), x.summer(7, 20, 1)}) h = 31 * h + v;
        return h;
    }

    private static void promise36() {
        CheeseEar x = new CheeseEar();
        due("36 a new object", x.digest(), digestOf(x));
        CheeseEar y = ear("h00abcde;s01bca;b02hgfed;h03dd;s04ecabd;b05a;h10fgh;s12aab", "372918465092837465910283746591");
        y.turning(3, 0);
        y.turning(4, 1);
        y.turning(11, 6);
        y.knock(7, 1);
        y.listen(2, 0, 0);
        y.set(0, 12);
        due("36 eight wheels", y.digest(), digestOf(y));
        due("36 it changes nothing", y.digest(), digestOf(y));
        y.lose(3);
        due("36 findings are not in it", y.digest(), digestOf(y));
        y.type(0, 59);
        due("36 with a fault", y.digest(), digestOf(y));
        CheeseEar z = ear("h04ab;s06cd", "");
        z.turning(7, 0);
        z.turning(8, 1);
        due("36 as the shared test has it", z.digest(), 3768758397077445311L);
    }
}

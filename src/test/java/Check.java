/** Counts the answers that are not as due. */
final class Check {
    static final int LEAST_INT = Integer.MIN_VALUE;
    static final long BAD_LONG = Long.MIN_VALUE + 2;
    static final int NULL = -11, INDEX = -12, CAST = -13, STORE = -14, SIZE = -15;
    static final int[] WRONG_INTS = {Integer.MIN_VALUE, Integer.MIN_VALUE + 1, -100, Integer.MAX_VALUE - 1, Integer.MAX_VALUE};

    private static int right = 0;
    private static int wrong = 0;
    private static String heading = "";

    private Check() {
    }

    static void due(String call, long got, long want) {
        if (got == want) {
            right++;
        } else {
            wrong++;
            if (wrong <= 50) {
                System.out.println(heading + call + " answered " + got + ", due is " + want);
            }
        }
    }

    static void holds(String what, boolean it) {
        due(what, it ? 1 : 0, 1);
    }

    /** What is told ahead of each answer that is not as due, from here on. */
    static void under(String told) {
        heading = told;
    }

    static int wrongSoFar() {
        return wrong;
    }

    static int soFar() {
        return right + wrong;
    }

    static void close(String name) {
        System.out.println(name + ": " + right + " answers as due, " + wrong + " not");
        if (wrong != 0) {
            System.exit(1);
        }
    }

    static CheeseEar ear(String wheels, String cave) {
        CheeseEar x = new CheeseEar();
        typeAll(x, 0, wheels);
        typeAll(x, 1, cave);
        return x;
    }

    static void typeAll(CheeseEar x, int text, String bytes) {
        for (int i = 0; i < bytes.length(); i++) {
            x.type(text, bytes.charAt(i));
        }
    }
}

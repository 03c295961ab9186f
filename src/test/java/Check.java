/** Counts and prints the answers that are not the ones due; every test ends with end(). */
final class Check {
    private static int right = 0, wrong = 0;

    private Check() {
    }

    static void same(String what, long got, long due) {
        if (got == due) {
            right++;
        } else {
            wrong++;
            System.out.println(what + " answered " + got + ", due is " + due);
        }
    }

    static void isTrue(String what, boolean is) {
        same(what, is ? 1 : 0, 1);
    }

    /** The answers of several calls of one kind, told in one row. */
    static void row(String what, int[] got, int... due) {
        same(what + ": how many", got.length, due.length);
        for (int i = 0; i < got.length && i < due.length; i++) {
            same(what + " [" + i + "]", got[i], due[i]);
        }
    }

    static void throwsArithmetic(StemBeams x, int beam, int n) {
        boolean thrown = false;
        try {
            x.share(beam, n);
        } catch (ArithmeticException e) {
            thrown = true;
        }
        isTrue("share(" + beam + ", " + n + ") throws ArithmeticException", thrown);
    }

    static void end() {
        System.out.println(right + " right, " + wrong + " wrong");
        if (wrong != 0 || right == 0) {
            System.exit(1);
        }
    }
}

/** Counts and prints the answers that are not the ones due; every test names its promise, every program ends with end(). */
final class Check {
    private static String test = "no promise named";
    private static int tests = 0, right = 0, wrong = 0, answersBefore = 0;

    private Check() {
    }

    /** Begins a test of one sentence of a promise. */
    static void promise(int number, String sentence) {
        about("promise " + number, sentence);
    }

    /** Begins a test of something that is no promise of one number. */
    static void about(String part, String sentence) {
        endTest();
        test = part + " (" + sentence + ")";
        tests++;
        answersBefore = right + wrong;
    }

    private static void endTest() {
        if (tests > 0 && right + wrong == answersBefore) {
            wrong++;
            System.out.println(test + ": nothing was looked at");
        }
    }

    static void same(String what, long got, long due) {
        if (got == due) {
            right++;
        } else {
            wrong++;
            System.out.println(test + ": " + what + " answered " + got + ", due is " + due);
        }
    }

    static void isTrue(String what, boolean is) {
        same(what, is ? 1 : 0, 1);
    }

    /** The answers of several calls of one kind, told in one row. */
    static void row(String what, int[] got, int... due) {
        same(what + ": how many", got.length, due.length);
        for (int i = 0; i < got.length && i < due.length; i++) {
            same(what + " [" + i + "]", got[i], due[i]);
        }
    }

    static void throwsArithmetic(StemBeams x, int beam, int n) {
        boolean thrown = false;
        boolean byTheMachine = false;
        try {
            x.share(beam, n);
        } catch (ArithmeticException e) {
            thrown = true;
            byTheMachine = "/ by zero".equals(e.getMessage());
        }
        isTrue("share(" + beam + ", " + n + ") throws ArithmeticException", thrown);
        isTrue("share(" + beam + ", " + n + ") throws it itself, before it divides", !byTheMachine);
    }

    static void end() {
        endTest();
        System.out.println(tests + " tests, " + right + " answers right, " + wrong + " wrong");
        if (wrong != 0 || right == 0 || tests == 0) {
            System.exit(1);
        }
    }
}

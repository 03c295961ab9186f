/** Promise 20: share, sentence by sentence. */
public final class Promise20ShareTest {
    public static void main(String[] args) {
        byHowMany();
        levelsOrMore();
        few();
        noneSoMany();
        noSuchBeam();
        changesNothing();
        Check.end();
    }

    /** Long.MIN_VALUE stands for the exception. */
    private static long share(StemBeams x, int beam, int n) {
        try {
            return x.share(beam, n);
        } catch (ArithmeticException e) {
            return Long.MIN_VALUE;
        }
    }

    private static void byHowMany() {
        Check.promise(20, "the LENGTHS added, by how many they are, cut off");
        // FLAT at -9 from NEAR 6, 2, 8: LENGTHS 15, 11, 17.
        Check.same("43 by 3", share(Score.of(3, 3, 1, 4), 0, 1), 14);
        // f -13, SLANT 2: 13 and 15.
        Check.same("28 by 2", share(Score.of(3, 0, 2), 0, 1), 14);
        // f 4, SLANT 1: 12, 15, 11.
        Check.same("38 by 3", share(Score.of(3, -4, -5, -3), 0, 1), 12);
        Check.same("16 of 14 each", share(Score.of(3, new int[16]), 0, 1), 14);
        Check.same("BETWEEN, 66 by 2", share(Score.toStaff1(Score.of(3, 5, -5), 1), 0, 1), 33);
    }

    /** LEVELS 1, 2, 4 at 34 over NEAR 0, 24, 0. */
    private static StemBeams mixed() {
        StemBeams x = Score.wide();
        x.note(0, 0, 3, 0);
        x.note(12, 0, 4, 0);
        x.note(0, 0, 6, 0);
        x.pause(1, 6, 0);
        x.group();
        return x;
    }

    private static void levelsOrMore() {
        Check.promise(20, "notes with n LEVELS or more");
        StemBeams x = mixed();
        Check.same("f", x.beam(0, 3), 34);
        Check.same("1: 34 + 10 + 34 by 3", share(x, 0, 1), 26);
        Check.same("2: 10 + 34 by 2", share(x, 0, 2), 22);
        Check.same("3: 34", share(x, 0, 3), 34);
        Check.same("4: 34", share(x, 0, 4), 34);
    }

    private static void few() {
        Check.promise(20, "n may be anything: all have 0 LEVELS or more");
        for (int n : new int[] {0, -1, -2, Score.LOW}) {
            Check.same("n " + n, share(mixed(), 0, n), 26);
        }
    }

    private static void noneSoMany() {
        Check.promise(20, "ArithmeticException: there are none");
        for (int value = 3; value <= 6; value++) {
            StemBeams x = Score.of(value, 2, 2);
            int levels = value - 2;
            Check.isTrue("n " + levels, share(x, 0, levels) >= 10);
            Check.throwsArithmetic(x, 0, levels + 1);
        }
        for (int n : new int[] {5, 6, 7, Score.HIGH}) {
            Check.throwsArithmetic(mixed(), 0, n);
        }
    }

    private static void noSuchBeam() {
        Check.promise(20, "ArithmeticException: no such beam");
        for (int beam : Score.NO_NUMBERS) {
            Check.throwsArithmetic(Score.rich(), beam, 1);
        }
        Check.throwsArithmetic(Score.rich(), 3, 1);
        Check.isTrue("the last one", share(Score.rich(), 2, 1) >= 10);
        Check.throwsArithmetic(new StemBeams(), 0, 1);
        StemBeams x = Score.rich();
        x.over(true);
        Check.throwsArithmetic(x, 0, 1);
        x = Score.toStaff1(Score.of(3, -12, 12), 1);
        Check.throwsArithmetic(x, 0, 1);
    }

    private static void changesNothing() {
        Check.promise(20, "thrown or not, nothing changes");
        Score.refused("none so many", Score::rich, x -> share(x, 0, 4), Long.MIN_VALUE);
        Score.refused("no such beam", Score::rich, x -> share(x, 3, 1), Long.MIN_VALUE);
        StemBeams x = Score.rich();
        x.share(0, 1);
        Score.sameLook("asked", x, Score.rich());
    }
}

/** Promise 14: other, sentence by sentence. */
public final class Promise14OtherTest {
    public static void main(String[] args) {
        fBounds();
        slantBounds();
        unknown();
        cannotLie();
        ofAFlatOne();
        itsOwn();
        roundedHeights();
        changesNothing();
        Check.end();
    }

    private static void fBounds() {
        Check.promise(14, "f is -200 to 200");
        StemBeams x = Score.of(3, -4, -4);
        Check.same("200", x.other(0, 200, 0), 2 * 194 * 194);
        Check.same("201", x.other(0, 201, 0), -1);
        Check.same("the greatest int", x.other(0, Score.HIGH, 0), -1);
        x = Score.of(3, 4, 4);
        Check.same("-200", x.other(0, -200, 0), 2 * 194 * 194);
        Check.same("-201", x.other(0, -201, 0), -1);
        Check.same("the least int", x.other(0, Score.LOW, 0), -1);
    }

    private static void slantBounds() {
        Check.promise(14, "SLANT is -6 to 6");
        StemBeams x = Score.of(3, -2, -2);
        for (int s = -6; s <= 6; s++) {
            long first = 24 - 14;
            long last = 24 + s - 14;
            Check.same("SLANT " + s, x.other(0, 20, s), first * first + last * last + 8 * s * s);
        }
        for (int s : new int[] {-7, 7, Score.LOW, Score.HIGH}) {
            Check.same("SLANT " + s, x.other(0, 20, s), -1);
        }
    }

    private static void unknown() {
        Check.promise(14, "-1: UNKNOWN");
        for (int beam : Score.NO_NUMBERS) {
            Check.same("other(" + beam + ", 40, 0)", Score.of(3, -2, -2).other(beam, 40, 0), -1);
        }
        StemBeams x = Score.of(3, -2, -2);
        Check.isTrue("the last one", x.other(0, 40, 0) > 0);
        Check.same("the one behind the last", x.other(1, 40, 0), -1);
        x.over(true);
        Check.same("taken away", x.other(0, 40, 0), -1);
    }

    private static void cannotLie() {
        Check.promise(14, "-1: it can't lie so");
        int[] least = {10, 10, 13, 16};
        for (int value = 3; value <= 6; value++) {
            StemBeams x = Score.upper(value, 4, 4);
            int just = 8 + least[value - 3];
            Check.same("just, up", x.other(0, just, 0), 2 * 16);
            Check.same("too short by 1, up", x.other(0, just - 1, 0), -1);
            Check.same("the last one too short by 1", x.other(0, just, -1), -1);
            Check.isTrue("the last one just long enough", x.other(0, just + 1, -1) >= 0);
            Check.same("the first one too short by 1", x.other(0, just - 1, 1), -1);
            x = Score.lower(value, -4, -4);
            Check.same("just, down", x.other(0, -just, 0), 2 * 16);
            Check.same("too short by 1, down", x.other(0, -just + 1, 0), -1);
        }
        StemBeams x = Score.upper(3, 4, 6, 4);
        Check.same("the inner one just", x.other(0, 22, 0), 0 + 16 + 0);
        Check.same("the inner one too short by 1", x.other(0, 21, 0), -1);
        x = Score.toStaff1(Score.of(3, 5, -5), 1);
        Check.same("BETWEEN, up to 0", x.other(0, 0, 0), 16 + 44 * 44);
        Check.same("BETWEEN, 1 above", x.other(0, 1, 0), -1);
        Check.same("BETWEEN, down to -48", x.other(0, -48, 0), 44 * 44 + 16);
        Check.same("BETWEEN, 1 below", x.other(0, -49, 0), -1);
        x = Score.of(3, -2, -2);
        Check.same("f -200", x.other(0, -200, 0), -1);
    }

    private static void ofAFlatOne() {
        Check.promise(14, "of a FLAT one also with SLANTS but 0");
        // NEAR 6, 2, 8, FLAT: IDEAL 0.
        StemBeams x = Score.of(3, 3, 1, 4);
        Check.same("FLAT", x.beam(0, 6), 1);
        // Heights -9, -8, -8: LENGTHS 15, 10, 16.
        Check.same("SLANT 1", x.other(0, -9, 1), 1 + 16 + 4 + 8);
        // Heights -12, -9, -6: LENGTHS 18, 11, 14, the last end on a wedge.
        Check.same("SLANT 6", x.other(0, -12, 6), 16 + 9 + 0 + 8 * 36 + 25);
        // Heights -9, -12, -15: LENGTHS 15, 14, 23.
        Check.same("SLANT -6", x.other(0, -9, -6), 1 + 0 + 81 + 8 * 36);
    }

    private static void itsOwn() {
        Check.promise(14, "BADNESS that a beam would have: with its own f and SLANT its own");
        StemBeams x = Score.rich();
        for (int b = 0; b < 3; b++) {
            Check.same("beam " + b, x.other(b, x.beam(b, 3), x.beam(b, 4)), x.badness(b));
        }
        Check.same("one that is not tried, beyond 12 behind", Score.of(3, -12, -12).other(0, 0, 0), 0);
    }

    private static void roundedHeights() {
        Check.promise(14, "f + ROUNDED s k / (n - 1), of two the one farther from 0");
        // Three notes of NEAR 0 that go up; WANT 14: heights 34, 34 + 1 or - 1, 34 + 1 or - 1.
        StemBeams x = Score.upper(3, 0, 0, 0);
        Check.same("1 / 2 is 1", x.other(0, 34, 1), 400 + 441 + 441 + 8);
        Check.same("-1 / 2 is -1", x.other(0, 34, -1), 400 + 361 + 361 + 8);
        Check.same("3 / 2 is 2", x.other(0, 34, 3), 400 + 484 + 529 + 72);
        Check.same("-3 / 2 is -2", x.other(0, 34, -3), 400 + 324 + 289 + 72);
        x = Score.upper(3, 0, 0, 0, 0);
        Check.same("1 / 3 is 0, 2 / 3 is 1", x.other(0, 34, 1), 400 + 400 + 441 + 441 + 8);
        Check.same("-1 / 3 is 0, -2 / 3 is -1", x.other(0, 34, -1), 400 + 400 + 361 + 361 + 8);
    }

    private static void changesNothing() {
        Check.promise(14, "would have: nothing changes");
        Score.refused("out of bounds", Score::rich, x -> x.other(0, 201, 0), -1);
        Score.refused("it can't lie so", Score::rich, x -> x.other(0, -200, 0), -1);
        StemBeams x = Score.rich();
        x.other(0, 40, 6);
        x.other(1, -20, 1);
        x.other(2, -40, -6);
        Score.sameLook("asked", x, Score.rich());
    }
}

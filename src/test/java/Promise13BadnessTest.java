/** Promise 13: badness, sentence by sentence. */
public final class Promise13BadnessTest {
    public static void main(String[] args) {
        unknown();
        lengths();
        wantToTheMiddleLine();
        slants();
        wedgesItCannotAvoid();
        noWedgeBeyondTheLines();
        wedgesOfStaff1();
        noWedgeBetween();
        feathering();
        Check.end();
    }

    private static void unknown() {
        Check.promise(13, "-1: UNKNOWN");
        for (int beam : Score.NO_NUMBERS) {
            Check.same("badness(" + beam + ")", Score.rich().badness(beam), -1);
        }
        Check.same("the one behind the last", Score.rich().badness(3), -1);
        Check.isTrue("the last one", Score.rich().badness(2) >= 0);
        Check.same("before group()", new StemBeams().badness(0), -1);
        StemBeams x = Score.rich();
        x.over(true);
        Check.same("taken away", x.badness(0), -1);
    }

    private static void lengths() {
        Check.promise(13, "(LENGTH - WANT)^2 of all notes added");
        Check.same("all as they want", Score.of(3, -2, -2).badness(0), 0);
        Check.same("all as they want, LEVELS 3", Score.of(5, -2, -2).badness(0), 0);
        Check.same("all as they want, LEVELS 4", Score.of(6, -2, -2).badness(0), 0);
        // At 34: 10 for 14, 34 for 14 four times.
        Check.same("too short and too long", Score.upper(3, 0, 0, 12, 0, 0).badness(0), 16 + 4 * 400);
        Check.same("down", Score.lower(3, 0, 0, -12, 0, 0).badness(0), 16 + 4 * 400);
        // WANT 14 and 20 from -4: 17 each.
        StemBeams x = Score.wide();
        x.note(-2, 0, 3, 0);
        x.note(-2, 0, 6, 0);
        x.group();
        Check.same("3 too long, 3 too short", x.badness(0), 18);
    }

    private static void wantToTheMiddleLine() {
        Check.promise(13, "WANT is up to the middle line, if that is by more than WANT above NEAR, likewise below");
        Check.same("14 below", Score.of(3, -7, -7).badness(0), 0);
        Check.same("14 below: f", Score.of(3, -7, -7).beam(0, 3), 0);
        Check.same("16 below", Score.of(3, -8, -8).badness(0), 0);
        Check.same("16 below: f", Score.of(3, -8, -8).beam(0, 3), 0);
        Check.same("16 above: f", Score.of(3, 8, 8).beam(0, 3), 0);
        // LEVELS 4 want 20: 20 below it is as it is, 22 below it is 22.
        Check.same("20 below, LEVELS 4", Score.of(6, -10, -10).other(0, 0, 0), 0);
        Check.same("22 below, LEVELS 4", Score.of(6, -11, -11).other(0, 0, 0), 0);
        Check.same("18 below, LEVELS 4: it wants 20", Score.of(6, -9, -9).other(0, 0, 0), 8);
        Check.same("16 below, LEVELS 3: it wants 17", Score.of(5, -8, -8).other(0, 0, 0), 2);
        Check.same("18 below, LEVELS 3", Score.of(5, -9, -9).other(0, 0, 0), 0);
        // Up from above the middle line that is not so.
        Check.same("up, 16 above", Score.upper(3, 8, 8).badness(0), 0);
        Check.same("up, 16 above: f", Score.upper(3, 8, 8).beam(0, 3), 30);
        Check.same("of STAFF 1", Score.toStaff1(Score.of(3, -8, -8), 0, 1).beam(0, 3), -48);
    }

    private static void slants() {
        Check.promise(13, "8 (s - IDEAL)^2");
        // NEAR 0 and 4, IDEAL 2: 13 and 15.
        StemBeams x = Score.of(3, 0, 2);
        Check.same("SLANT is IDEAL", x.badness(0), 2);
        // NEAR 2 and 24 (WANT 14 and 24), IDEAL 6: at -10 and -5 off by -2 and 5.
        Check.same("SLANT 5 for IDEAL 6", Score.of(3, 1, 12).other(0, -10, 5), 8 + 4 + 25);
        // NEAR -16, -14, -14: SLANT 0 for IDEAL 1.
        x = Score.wide();
        x.note(-8, 0, 6, 0);
        x.note(-7, 0, 4, 0);
        x.note(-7, 0, 5, 0);
        x.group();
        Check.same("SLANT 0 for IDEAL 1", x.badness(0), 1 + 9 + 8);
    }

    private static void wedgesItCannotAvoid() {
        Check.promise(13, "25 for each of the two ends' heights on a wedge");
        // NEAR -4 within: 6 is the least; the others (WANT 24) are off by 6 there.
        StemBeams x = Score.upper(3, -12, -12, -2, -12, -12, -12);
        Check.same("f", x.beam(0, 3), 6);
        Check.same("both ends", x.badness(0), 5 * 36 + 16 + 50);
        x = Score.lower(3, 12, 12, 2, 12, 12, 12);
        Check.same("f, down", x.beam(0, 3), -6);
        Check.same("both ends, down", x.badness(0), 5 * 36 + 16 + 50);
    }

    private static void noWedgeBeyondTheLines() {
        Check.promise(13, "on a wedge: -8 to 8, and mod 4 it is 2");
        StemBeams x = Score.lower(3, 12, 12);
        for (int h = -14; h <= 14; h++) {
            boolean wedge = h == -6 || h == -2 || h == 2 || h == 6;
            long off = 24 - h - 24;
            Check.same("down, at " + h, x.other(0, h, 0), 2 * off * off + (wedge ? 50 : 0));
        }
        x = Score.upper(3, -12, -12);
        for (int h = -14; h <= 14; h++) {
            boolean wedge = h == -6 || h == -2 || h == 2 || h == 6;
            long off = h + 24 - 24;
            Check.same("up, at " + h, x.other(0, h, 0), 2 * off * off + (wedge ? 50 : 0));
        }
        Check.same("the first end alone", x.other(0, 2, 1), 4 + 9 + 8 + 25);
        Check.same("the last end alone", x.other(0, 1, 1), 1 + 4 + 8 + 25);
        Check.same("neither", x.other(0, 3, 1), 9 + 16 + 8);
        x = Score.upper(3, -12, -12, -12);
        Check.same("an inner note is no end", x.other(0, 1, 2), 1 + 4 + 9 + 32);
    }

    private static void wedgesOfStaff1() {
        Check.promise(13, "on a wedge of STAFF 1, if all notes are there");
        StemBeams x = Score.toStaff1(Score.lower(3, 12, 12), 0, 1);
        for (int h = -14; h <= 14; h++) {
            boolean wedge = h == -6 || h == -2 || h == 2 || h == 6;
            Check.same("at " + h, x.other(0, h - 48, 0), 2L * h * h + (wedge ? 50 : 0));
        }
        // From STAFF 1 up to the lines of STAFF 0: 2 is on no wedge.
        x = Score.toStaff1(Score.upper(3, 12, 12), 0, 1);
        Check.same("of STAFF 0 none", x.other(0, 2, 0), 2 * 12 * 12);
    }

    private static void noWedgeBetween() {
        Check.promise(13, "BETWEEN none is on a wedge, and WANT is not up to the middle line");
        StemBeams x = Score.toStaff1(Score.of(3, 12, -12), 1);
        for (int h : new int[] {-54, -50, -46, -42, -6, -2, 2, 6}) {
            long upper = 24 - h - 14;
            long lower = h + 72 - 14;
            Check.same("at " + h, x.other(0, h, 0), upper * upper + lower * lower);
        }
    }

    private static void feathering() {
        Check.promise(13, "FEATHERED or not");
        StemBeams x = Score.of(6, 0, 2);
        long badness = x.badness(0);
        x.feather(0, 1);
        Check.same("to the right", x.badness(0), badness);
        x.feather(0, 2);
        Check.same("to the left", x.badness(0), badness);
    }
}
